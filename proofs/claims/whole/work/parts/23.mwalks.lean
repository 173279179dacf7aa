abbrev rmX5_locker : Room := { frames := 0, cells := 0, slots := 0, locals := 0 }
set_option maxHeartbeats 4000000 in
set_option maxRecDepth 100000 in
theorem m_locker (l : Launch) (G : va_G) (cB cI cZ : ClassId) (tc : Nat) (a : Nat → Nat) (ag ow ru hd kd tb md lv dr nb bg lr lb lh : Nat → Int32) (g : Nat) (t0 : Nat) (q : Nat) (x1 : Int32) (x2 : Int32) (hq6 : q ≤ 600) (hlb : ∀ i, i < q → ∃ k : Nat, k < 4001 ∧ lb i = nI k)  : KC l yX5_locker wsX5_locker rmX5_locker G [(cB, .byte), (cI, .int), (cZ, .boolean)] tc [.ref (a 0), .int x1, .int x2] (wm a cB cI cZ ag (nI g) ow ru hd kd tb md lv dr nb bg (nI t0) (nI q) lr lb lh) (fun v w' => w' = (wm a cB cI cZ ag (nI g) ow ru hd kd tb md lv dr nb bg (nI t0) (nI q) lr lb lh) ∧ ∃ T, mx_lrR ru lr lb lh q x1 x2 T ∧ v = some (.int (if (mx_lrT ru lr lb lh q x1 T).2 = 1 then -(mx_lrT ru lr lb lh q x1 T).1 else (mx_lrT ru lr lb lh q x1 T).1))) := by
  refine KC.of (cc := cX5_locker) (maxL := 8) (ret := some .int) (by decide) rfl (Nat.le_of_ble_eq_true rfl) ?_
  intro p e s m below meth c args A Q ls hx hb hml hown hts hK hZ hA hP hD hS hl hri hrv
  have hown : s.vm.findClass RX5 = some m.cls := hown
  have hl : lv_has ls 8 [(0, .ref (a 0)), (1, .int x1), (2, .int x2)] := hl
  have fl_16 := hts (.fieldLink RX5 16 "LockDeskModel" "runs" "[Z") (by decide +kernel)
  have fl_44 := hts (.fieldLink RX5 44 "LockDeskModel" "lockRow" "[I") (by decide +kernel)
  have fl_47 := hts (.fieldLink RX5 47 "LockDeskModel" "lockBy" "[I") (by decide +kernel)
  have fl_50 := hts (.fieldLink RX5 50 "LockDeskModel" "lockHow" "[I") (by decide +kernel)
  have fl_93 := hts (.fieldLink RX5 93 "LockDeskModel" "locks" "I") (by decide +kernel)
  have hin5 : ∀ w ∈ wsX50, w ∈ wsX5_locker := by decide +kernel
  refine lv_iconst (v := 0) hx hb dX5_locker_0 (by decide) ?_
  refine lv_istore_n (lv' := [(3, .int 0), (0, .ref (a 0)), (1, .int x1), (2, .int x2)]) hx hb dX5_locker_1 rfl hl (by decide) rfl (fun ls hl => ?_)
  refine lv_iconst (v := 0) hx hb dX5_locker_2 (by decide) ?_
  refine lv_istore (lv' := [(4, .int 0), (3, .int 0), (0, .ref (a 0)), (1, .int x1), (2, .int x2)]) hx hb dX5_locker_3 hl (by decide) rfl (fun ls hl => ?_)
  refine lv_iconst (v := 0) hx hb dX5_locker_5 (by decide) ?_
  refine lv_istore (lv' := [(5, .int 0), (4, .int 0), (3, .int 0), (0, .ref (a 0)), (1, .int x1), (2, .int x2)]) hx hb dX5_locker_6 hl (by decide) rfl (fun ls hl => ?_)
  have lp_8 : ∀ (nf : Nat) (t lst : Nat) (hw : Int32) (H : Heap) (locs : List Loc) (ls : Array Slot), mx_mu t lst < nf → (lst ≤ 4000) → ((t = 0 ∧ lst = 0) ∨ (1 ≤ t ∧ t ≤ lst) ∨ (1 ≤ t ∧ lst = 0 ∧ t ≤ 4001)) → ((nI lst, hw) = mx_lrT ru lr lb lh q x1 t) → (∀ u, u < t → ¬ x2 < nI u ∧ (u = 0 ∨ ¬ (mx_lrT ru lr lb lh q x1 u).1 ≤ 0)) → va_P G vwCl (wm a cB cI cZ ag (nI g) ow ru hd kd tb md lv dr nb bg (nI t0) (nI q) lr lb lh) H → va_D A (wm a cB cI cZ ag (nI g) ow ru hd kd tb md lv dr nb bg (nI t0) (nI q) lr lb lh) → va_S A s.heap H locs → lv_has ls 8 [(5, .int (nI t)), (4, .int hw), (3, .int (nI lst)), (0, .ref (a 0)), (1, .int x1), (2, .int x2)] → W p l e rmX5_locker s m args below meth c H locs 0 0 Q (F0 m 8 ls []) := by
    intro nf
    induction nf with
    | zero => intro t lst hw H locs ls h0; exact absurd h0 (Nat.not_lt_zero _)
    | succ nf_8 ih_8 =>
      intro t lst hw H locs ls hn_8 hl4 hJ hT hcont hP hD hS hl
      refine lv_iload hx hb dX5_locker_8 (lv_at hl 0 rfl) ?_
      refine lv_iload_n hx hb dX5_locker_10 rfl (lv_at hl 5 rfl) ?_
      refine lv_icmp_gt (tgt := 125) hx hb dX5_locker_11 (by decide) (fun c_11 => ?_) (fun c_11 => ?_)
      · have hR : mx_lrR ru lr lb lh q x1 x2 t := ⟨by omega, hcont, Or.inl c_11⟩
        refine lv_iload hx hb dX5_locker_125 (lv_at hl 1 rfl) ?_
        refine lv_iconst (v := 1) hx hb dX5_locker_127 (by decide) ?_
        refine lv_icmp_ne (tgt := 136) hx hb dX5_locker_128 (by decide) (fun c_128 => ?_) (fun c_128 => ?_)
        · refine lv_iload_n hx hb dX5_locker_136 rfl (lv_at hl 2 rfl) ?_
          exact hri _ rfl (nI lst) _ _ _ _ _ (rfl) (⟨rfl, t, hR, by rw [← hT]; simp [c_128]⟩) hP hD hS dX5_locker_137
        · refine lv_iload_n hx hb dX5_locker_131 rfl (lv_at hl 2 rfl) ?_
          refine lv_ineg hx hb dX5_locker_132 ?_
          refine lv_goto (tgt := 137) hx hb dX5_locker_133 (by decide) ?_
          exact hri _ rfl (-(nI lst)) _ _ _ _ _ (rfl) (⟨rfl, t, hR, by rw [← hT]; simp [c_128]⟩) hP hD hS dX5_locker_137
      · refine lv_iload hx hb dX5_locker_14 (lv_at hl 0 rfl) ?_
        refine lv_if_eq (tgt := 23) hx hb dX5_locker_16 (by decide) (fun c_16 => ?_) (fun c_16 => ?_)
        · have h16 : t = 0 := by
            have := (nI_eq (a := t) (b := 0) (by omega) (by decide)).mp c_16
            exact this
          have hcz : t = 0 ∨ 0 < lst := Or.inl h16
          have hct : ¬ x2 < nI t ∧ (t = 0 ∨ ¬ (mx_lrT ru lr lb lh q x1 t).1 ≤ 0) := ⟨c_11, Or.inl h16⟩
          refine lv_iconst (v := 0) hx hb dX5_locker_23 (by decide) ?_
          refine lv_istore (lv' := [(6, .int 0), (5, .int (nI t)), (4, .int hw), (3, .int (nI lst)), (0, .ref (a 0)), (1, .int x1), (2, .int x2)]) hx hb dX5_locker_24 hl (by decide) rfl (fun ls hl => ?_)
          refine lv_iconst (v := 0) hx hb dX5_locker_26 (by decide) ?_
          refine lv_istore (lv' := [(7, .int 0), (6, .int 0), (5, .int (nI t)), (4, .int hw), (3, .int (nI lst)), (0, .ref (a 0)), (1, .int x1), (2, .int x2)]) hx hb dX5_locker_27 hl (by decide) rfl (fun ls hl => ?_)
          have lp_29 : ∀ (nf : Nat) (i fnd : Nat) (hw2 : Int32) (H : Heap) (locs : List Loc) (ls : Array Slot), q - i < nf → (i ≤ q) → (fnd = 0 ∨ (lst < fnd ∧ fnd ≤ 4000)) → ((nI fnd, hw2) = fw_it (mx_lrS ru lr lb lh x1 (nI lst)) i (0, hw)) → va_P G vwCl (wm a cB cI cZ ag (nI g) ow ru hd kd tb md lv dr nb bg (nI t0) (nI q) lr lb lh) H → va_D A (wm a cB cI cZ ag (nI g) ow ru hd kd tb md lv dr nb bg (nI t0) (nI q) lr lb lh) → va_S A s.heap H locs → lv_has ls 8 [(7, .int (nI i)), (6, .int (nI fnd)), (5, .int (nI t)), (4, .int hw2), (3, .int (nI lst)), (0, .ref (a 0)), (1, .int x1), (2, .int x2)] → W p l e rmX5_locker s m args below meth c H locs 0 0 Q (F0 m 29 ls []) := by
            intro nf
            induction nf with
            | zero => intro i fnd hw2 H locs ls h0; exact absurd h0 (Nat.not_lt_zero _)
            | succ nf_29 ih_29 =>
              intro i fnd hw2 H locs ls hn_29 hi hfr hf hP hD hS hl
              refine lv_iload hx hb dX5_locker_29 (lv_at hl 0 rfl) ?_
              refine lv_aload_n hx hb dX5_locker_31 rfl (lv_at hl 5 rfl) ?_
              refine va_get (D := G) (ci := 5) (v := .int (nI q)) (C := RX5) (T := TX5) (N := 17) hx hb hts hin5 hown hK hP 0 rfl rfl 13 (by decide) fl_93 (fun _ h9 => h9) rfl dX5_locker_32 ?_
              refine lv_icmp_ge (tgt := 116) hx hb dX5_locker_35 (by decide) (fun c_35 => ?_) (fun c_35 => ?_)
              · have hE : i = q := by
                  have := fw_nle c_35 (by omega) (by omega)
                  omega
                refine lv_iload hx hb dX5_locker_116 (lv_at hl 1 rfl) ?_
                refine lv_istore_n (lv' := [(3, .int (nI fnd)), (7, .int (nI i)), (6, .int (nI fnd)), (5, .int (nI t)), (4, .int hw2), (0, .ref (a 0)), (1, .int x1), (2, .int x2)]) hx hb dX5_locker_118 rfl hl (by decide) rfl (fun ls hl => ?_)
                refine lv_iinc (v := nI (t + 1)) (lv' := [(5, .int (nI (t + 1))), (3, .int (nI fnd)), (7, .int (nI i)), (6, .int (nI fnd)), (4, .int hw2), (0, .ref (a 0)), (1, .int x1), (2, .int x2)]) hx hb dX5_locker_119 hl (k := 3) rfl (fw_inc _) (by decide) rfl (fun ls hl => ?_)
                refine lv_goto (tgt := 8) hx hb dX5_locker_122 (by decide) ?_
                exact ih_8 (t + 1) fnd hw2 _ _ _ (Nat.lt_of_lt_of_le (mx_mu_lt hcz hl4 hfr) (Nat.le_of_lt_succ hn_8)) (by omega) (by omega) (by show _ = fw_it _ (t + 1) _; rw [fw_itS]; show _ = mx_lrO ru lr lb lh q x1 t (mx_lrT ru lr lb lh q x1 t); rw [← hT]; show _ = fw_it (mx_lrS ru lr lb lh x1 (nI lst)) q (0, hw); rw [← hE, ← hf]) (fun u hu => by
            rcases Nat.lt_succ_iff_lt_or_eq.mp hu with h | h
            · exact hcont u h
            · subst h; exact hct) hP hD hS (lv_sub hl [0, 4, 1, 5, 6, 7] rfl)
              · have hL : i < q := by
                  have := fw_nlt c_35 (by omega) (by omega)
                  omega
                refine lv_aload_n hx hb dX5_locker_38 rfl (lv_at hl 5 rfl) ?_
                refine va_get (D := G) (ci := 5) (v := .ref (a 12)) (C := RX5) (T := TX5) (N := 17) hx hb hts hin5 hown hK hP 0 rfl rfl 14 (by decide) fl_44 (fun _ h9 => h9) rfl dX5_locker_39 ?_
                refine lv_iload hx hb dX5_locker_42 (lv_at hl 0 rfl) ?_
                refine fw_iald (j := i) (f := lr) hx hb hK hP 12 1 rfl rfl (by omega) (by decide) dX5_locker_44 ?_
                refine lv_iload_n hx hb dX5_locker_45 rfl (lv_at hl 6 rfl) ?_
                refine lv_icmp_ne (tgt := 110) hx hb dX5_locker_46 (by decide) (fun c_46 => ?_) (fun c_46 => ?_)
                · refine lv_iinc (v := nI (i + 1)) (lv' := [(7, .int (nI (i + 1))), (6, .int (nI fnd)), (5, .int (nI t)), (4, .int hw2), (3, .int (nI lst)), (0, .ref (a 0)), (1, .int x1), (2, .int x2)]) hx hb dX5_locker_110 hl (k := 0) rfl (fw_inc _) (by decide) rfl (fun ls hl => ?_)
                  refine lv_goto (tgt := 29) hx hb dX5_locker_113 (by decide) ?_
                  exact ih_29 (i + 1) fnd hw2 _ _ _ (by omega) (by omega) (hfr) (by rw [fw_itS, ← hf]; simp [mx_lrS, c_46]) hP hD hS (lv_sub hl [0, 1, 2, 3, 4, 5, 6, 7] rfl)
                · refine lv_aload_n hx hb dX5_locker_49 rfl (lv_at hl 5 rfl) ?_
                  refine va_get (D := G) (ci := 5) (v := .ref (a 3)) (C := RX5) (T := TX5) (N := 17) hx hb hts hin5 hown hK hP 0 rfl rfl 3 (by decide) fl_16 (fun _ h9 => h9) rfl dX5_locker_50 ?_
                  refine lv_aload_n hx hb dX5_locker_53 rfl (lv_at hl 5 rfl) ?_
                  refine va_get (D := G) (ci := 5) (v := .ref (a 13)) (C := RX5) (T := TX5) (N := 17) hx hb hts hin5 hown hK hP 0 rfl rfl 15 (by decide) fl_47 (fun _ h9 => h9) rfl dX5_locker_54 ?_
                  refine lv_iload hx hb dX5_locker_57 (lv_at hl 0 rfl) ?_
                  refine fw_iald (j := i) (f := lb) hx hb hK hP 13 1 rfl rfl (by omega) (by decide) dX5_locker_59 ?_
                  obtain ⟨k2, hk24, ek2⟩ := hlb i hL
                  rw [ek2]
                  have ecl : (lb i).toNatClampNeg = k2 := by rw [ek2]; exact nI_clamp (by omega)
                  refine fw_zald (j := k2) (f := ru) hx hb hK hP 3 2 rfl rfl (by omega) (by decide) dX5_locker_60 ?_
                  refine lv_if_eq (tgt := 110) hx hb dX5_locker_61 (by decide) (fun c_61 => ?_) (fun c_61 => ?_)
                  · refine lv_iinc (v := nI (i + 1)) (lv' := [(7, .int (nI (i + 1))), (6, .int (nI fnd)), (5, .int (nI t)), (4, .int hw2), (3, .int (nI lst)), (0, .ref (a 0)), (1, .int x1), (2, .int x2)]) hx hb dX5_locker_110 hl (k := 0) rfl (fw_inc _) (by decide) rfl (fun ls hl => ?_)
                    refine lv_goto (tgt := 29) hx hb dX5_locker_113 (by decide) ?_
                    exact ih_29 (i + 1) fnd hw2 _ _ _ (by omega) (by omega) (hfr) (by rw [fw_itS, ← hf]; simp [mx_lrS, ecl, eq_true c_46, eq_true c_61]) hP hD hS (lv_sub hl [0, 1, 2, 3, 4, 5, 6, 7] rfl)
                  · refine lv_aload_n hx hb dX5_locker_64 rfl (lv_at hl 5 rfl) ?_
                    refine va_get (D := G) (ci := 5) (v := .ref (a 13)) (C := RX5) (T := TX5) (N := 17) hx hb hts hin5 hown hK hP 0 rfl rfl 15 (by decide) fl_47 (fun _ h9 => h9) rfl dX5_locker_65 ?_
                    refine lv_iload hx hb dX5_locker_68 (lv_at hl 0 rfl) ?_
                    refine fw_iald (j := i) (f := lb) hx hb hK hP 13 1 rfl rfl (by omega) (by decide) dX5_locker_70 ?_
                    refine lv_iload_n hx hb dX5_locker_71 rfl (lv_at hl 4 rfl) ?_
                    refine lv_icmp_le (tgt := 110) hx hb dX5_locker_72 (by decide) (fun c_72 => ?_) (fun c_72 => ?_)
                    · refine lv_iinc (v := nI (i + 1)) (lv' := [(7, .int (nI (i + 1))), (6, .int (nI fnd)), (5, .int (nI t)), (4, .int hw2), (3, .int (nI lst)), (0, .ref (a 0)), (1, .int x1), (2, .int x2)]) hx hb dX5_locker_110 hl (k := 0) rfl (fw_inc _) (by decide) rfl (fun ls hl => ?_)
                      refine lv_goto (tgt := 29) hx hb dX5_locker_113 (by decide) ?_
                      exact ih_29 (i + 1) fnd hw2 _ _ _ (by omega) (by omega) (hfr) (by rw [fw_itS, ← hf]; simp [mx_lrS, ecl, eq_true c_46, c_61, c_72]) hP hD hS (lv_sub hl [0, 1, 2, 3, 4, 5, 6, 7] rfl)
                    · refine lv_iload hx hb dX5_locker_75 (lv_at hl 1 rfl) ?_
                      refine lv_if_eq (tgt := 92) hx hb dX5_locker_77 (by decide) (fun c_77 => ?_) (fun c_77 => ?_)
                      · refine lv_aload_n hx hb dX5_locker_92 rfl (lv_at hl 5 rfl) ?_
                        refine va_get (D := G) (ci := 5) (v := .ref (a 13)) (C := RX5) (T := TX5) (N := 17) hx hb hts hin5 hown hK hP 0 rfl rfl 15 (by decide) fl_47 (fun _ h9 => h9) rfl dX5_locker_93 ?_
                        refine lv_iload hx hb dX5_locker_96 (lv_at hl 0 rfl) ?_
                        refine fw_iald (j := i) (f := lb) hx hb hK hP 13 1 rfl rfl (by omega) (by decide) dX5_locker_98 ?_
                        refine lv_istore (lv' := [(6, .int (lb i)), (7, .int (nI i)), (5, .int (nI t)), (4, .int hw2), (3, .int (nI lst)), (0, .ref (a 0)), (1, .int x1), (2, .int x2)]) hx hb dX5_locker_99 hl (by decide) rfl (fun ls hl => ?_)
                        refine lv_aload_n hx hb dX5_locker_101 rfl (lv_at hl 5 rfl) ?_
                        refine va_get (D := G) (ci := 5) (v := .ref (a 14)) (C := RX5) (T := TX5) (N := 17) hx hb hts hin5 hown hK hP 0 rfl rfl 16 (by decide) fl_50 (fun _ h9 => h9) rfl dX5_locker_102 ?_
                        refine lv_iload hx hb dX5_locker_105 (lv_at hl 1 rfl) ?_
                        refine fw_iald (j := i) (f := lh) hx hb hK hP 14 1 rfl rfl (by omega) (by decide) dX5_locker_107 ?_
                        refine lv_istore (lv' := [(4, .int (lh i)), (6, .int (lb i)), (7, .int (nI i)), (5, .int (nI t)), (3, .int (nI lst)), (0, .ref (a 0)), (1, .int x1), (2, .int x2)]) hx hb dX5_locker_108 hl (by decide) rfl (fun ls hl => ?_)
                        refine lv_iinc (v := nI (i + 1)) (lv' := [(7, .int (nI (i + 1))), (4, .int (lh i)), (6, .int (lb i)), (5, .int (nI t)), (3, .int (nI lst)), (0, .ref (a 0)), (1, .int x1), (2, .int x2)]) hx hb dX5_locker_110 hl (k := 2) rfl (fw_inc _) (by decide) rfl (fun ls hl => ?_)
                        refine lv_goto (tgt := 29) hx hb dX5_locker_113 (by decide) ?_
                        rw [ek2] at hl
                        exact ih_29 (i + 1) k2 (lh i) _ _ _ (by omega) (by omega) (Or.inr ⟨by have := fw_nlt (a := k2) (b := lst) (by rw [← ek2]; exact c_72) (by omega) (by omega); exact this, by omega⟩) (by rw [fw_itS, ← hf, ← ek2]; simp [mx_lrS, ecl, eq_true c_46, c_61, c_72, eq_true c_77]) hP hD hS (lv_sub hl [0, 2, 3, 1, 4, 5, 6, 7] rfl)
                      · refine lv_aload_n hx hb dX5_locker_80 rfl (lv_at hl 5 rfl) ?_
                        refine va_get (D := G) (ci := 5) (v := .ref (a 13)) (C := RX5) (T := TX5) (N := 17) hx hb hts hin5 hown hK hP 0 rfl rfl 15 (by decide) fl_47 (fun _ h9 => h9) rfl dX5_locker_81 ?_
                        refine lv_iload hx hb dX5_locker_84 (lv_at hl 0 rfl) ?_
                        refine fw_iald (j := i) (f := lb) hx hb hK hP 13 1 rfl rfl (by omega) (by decide) dX5_locker_86 ?_
                        refine lv_iload hx hb dX5_locker_87 (lv_at hl 1 rfl) ?_
                        refine lv_icmp_ge (tgt := 110) hx hb dX5_locker_89 (by decide) (fun c_89 => ?_) (fun c_89 => ?_)
                        · refine lv_iinc (v := nI (i + 1)) (lv' := [(7, .int (nI (i + 1))), (6, .int (nI fnd)), (5, .int (nI t)), (4, .int hw2), (3, .int (nI lst)), (0, .ref (a 0)), (1, .int x1), (2, .int x2)]) hx hb dX5_locker_110 hl (k := 0) rfl (fw_inc _) (by decide) rfl (fun ls hl => ?_)
                          refine lv_goto (tgt := 29) hx hb dX5_locker_113 (by decide) ?_
                          exact ih_29 (i + 1) fnd hw2 _ _ _ (by omega) (by omega) (hfr) (by rw [fw_itS, ← hf]; simp [mx_lrS, ecl, eq_true c_46, c_61, c_72, c_77, c_89]) hP hD hS (lv_sub hl [0, 1, 2, 3, 4, 5, 6, 7] rfl)
                        · refine lv_aload_n hx hb dX5_locker_92 rfl (lv_at hl 5 rfl) ?_
                          refine va_get (D := G) (ci := 5) (v := .ref (a 13)) (C := RX5) (T := TX5) (N := 17) hx hb hts hin5 hown hK hP 0 rfl rfl 15 (by decide) fl_47 (fun _ h9 => h9) rfl dX5_locker_93 ?_
                          refine lv_iload hx hb dX5_locker_96 (lv_at hl 0 rfl) ?_
                          refine fw_iald (j := i) (f := lb) hx hb hK hP 13 1 rfl rfl (by omega) (by decide) dX5_locker_98 ?_
                          refine lv_istore (lv' := [(6, .int (lb i)), (7, .int (nI i)), (5, .int (nI t)), (4, .int hw2), (3, .int (nI lst)), (0, .ref (a 0)), (1, .int x1), (2, .int x2)]) hx hb dX5_locker_99 hl (by decide) rfl (fun ls hl => ?_)
                          refine lv_aload_n hx hb dX5_locker_101 rfl (lv_at hl 5 rfl) ?_
                          refine va_get (D := G) (ci := 5) (v := .ref (a 14)) (C := RX5) (T := TX5) (N := 17) hx hb hts hin5 hown hK hP 0 rfl rfl 16 (by decide) fl_50 (fun _ h9 => h9) rfl dX5_locker_102 ?_
                          refine lv_iload hx hb dX5_locker_105 (lv_at hl 1 rfl) ?_
                          refine fw_iald (j := i) (f := lh) hx hb hK hP 14 1 rfl rfl (by omega) (by decide) dX5_locker_107 ?_
                          refine lv_istore (lv' := [(4, .int (lh i)), (6, .int (lb i)), (7, .int (nI i)), (5, .int (nI t)), (3, .int (nI lst)), (0, .ref (a 0)), (1, .int x1), (2, .int x2)]) hx hb dX5_locker_108 hl (by decide) rfl (fun ls hl => ?_)
                          refine lv_iinc (v := nI (i + 1)) (lv' := [(7, .int (nI (i + 1))), (4, .int (lh i)), (6, .int (lb i)), (5, .int (nI t)), (3, .int (nI lst)), (0, .ref (a 0)), (1, .int x1), (2, .int x2)]) hx hb dX5_locker_110 hl (k := 2) rfl (fw_inc _) (by decide) rfl (fun ls hl => ?_)
                          refine lv_goto (tgt := 29) hx hb dX5_locker_113 (by decide) ?_
                          rw [ek2] at hl
                          exact ih_29 (i + 1) k2 (lh i) _ _ _ (by omega) (by omega) (Or.inr ⟨by have := fw_nlt (a := k2) (b := lst) (by rw [← ek2]; exact c_72) (by omega) (by omega); exact this, by omega⟩) (by rw [fw_itS, ← hf, ← ek2]; simp [mx_lrS, ecl, eq_true c_46, c_61, c_72, c_77, c_89]) hP hD hS (lv_sub hl [0, 2, 3, 1, 4, 5, 6, 7] rfl)
          exact lp_29 _ 0 0 hw _ _ _ (Nat.lt_succ_self _) (by omega) (Or.inl rfl) (rfl) hP hD hS (lv_sub hl [0, 1, 2, 3, 4, 5, 6, 7] rfl)
        · have h16 : t ≠ 0 := fun e => c_16 (by rw [e]; rfl)
          refine lv_iload_n hx hb dX5_locker_19 rfl (lv_at hl 2 rfl) ?_
          refine lv_if_le (tgt := 125) hx hb dX5_locker_20 (by decide) (fun c_20 => ?_) (fun c_20 => ?_)
          · have hR : mx_lrR ru lr lb lh q x1 x2 t := ⟨by omega, hcont, Or.inr ⟨h16, by rw [← hT]; exact c_20⟩⟩
            refine lv_iload hx hb dX5_locker_125 (lv_at hl 1 rfl) ?_
            refine lv_iconst (v := 1) hx hb dX5_locker_127 (by decide) ?_
            refine lv_icmp_ne (tgt := 136) hx hb dX5_locker_128 (by decide) (fun c_128 => ?_) (fun c_128 => ?_)
            · refine lv_iload_n hx hb dX5_locker_136 rfl (lv_at hl 2 rfl) ?_
              exact hri _ rfl (nI lst) _ _ _ _ _ (rfl) (⟨rfl, t, hR, by rw [← hT]; simp [c_128]⟩) hP hD hS dX5_locker_137
            · refine lv_iload_n hx hb dX5_locker_131 rfl (lv_at hl 2 rfl) ?_
              refine lv_ineg hx hb dX5_locker_132 ?_
              refine lv_goto (tgt := 137) hx hb dX5_locker_133 (by decide) ?_
              exact hri _ rfl (-(nI lst)) _ _ _ _ _ (rfl) (⟨rfl, t, hR, by rw [← hT]; simp [c_128]⟩) hP hD hS dX5_locker_137
          · have hcz : t = 0 ∨ 0 < lst := Or.inr (by
              rcases Nat.eq_zero_or_pos lst with h | h
              · exact absurd (by rw [h]; decide) c_20
              · exact h)
            have hct : ¬ x2 < nI t ∧ (t = 0 ∨ ¬ (mx_lrT ru lr lb lh q x1 t).1 ≤ 0) := ⟨c_11, Or.inr (by rw [← hT]; exact c_20)⟩
            refine lv_iconst (v := 0) hx hb dX5_locker_23 (by decide) ?_
            refine lv_istore (lv' := [(6, .int 0), (5, .int (nI t)), (4, .int hw), (3, .int (nI lst)), (0, .ref (a 0)), (1, .int x1), (2, .int x2)]) hx hb dX5_locker_24 hl (by decide) rfl (fun ls hl => ?_)
            refine lv_iconst (v := 0) hx hb dX5_locker_26 (by decide) ?_
            refine lv_istore (lv' := [(7, .int 0), (6, .int 0), (5, .int (nI t)), (4, .int hw), (3, .int (nI lst)), (0, .ref (a 0)), (1, .int x1), (2, .int x2)]) hx hb dX5_locker_27 hl (by decide) rfl (fun ls hl => ?_)
            have lp_29 : ∀ (nf : Nat) (i fnd : Nat) (hw2 : Int32) (H : Heap) (locs : List Loc) (ls : Array Slot), q - i < nf → (i ≤ q) → (fnd = 0 ∨ (lst < fnd ∧ fnd ≤ 4000)) → ((nI fnd, hw2) = fw_it (mx_lrS ru lr lb lh x1 (nI lst)) i (0, hw)) → va_P G vwCl (wm a cB cI cZ ag (nI g) ow ru hd kd tb md lv dr nb bg (nI t0) (nI q) lr lb lh) H → va_D A (wm a cB cI cZ ag (nI g) ow ru hd kd tb md lv dr nb bg (nI t0) (nI q) lr lb lh) → va_S A s.heap H locs → lv_has ls 8 [(7, .int (nI i)), (6, .int (nI fnd)), (5, .int (nI t)), (4, .int hw2), (3, .int (nI lst)), (0, .ref (a 0)), (1, .int x1), (2, .int x2)] → W p l e rmX5_locker s m args below meth c H locs 0 0 Q (F0 m 29 ls []) := by
              intro nf
              induction nf with
              | zero => intro i fnd hw2 H locs ls h0; exact absurd h0 (Nat.not_lt_zero _)
              | succ nf_29 ih_29 =>
                intro i fnd hw2 H locs ls hn_29 hi hfr hf hP hD hS hl
                refine lv_iload hx hb dX5_locker_29 (lv_at hl 0 rfl) ?_
                refine lv_aload_n hx hb dX5_locker_31 rfl (lv_at hl 5 rfl) ?_
                refine va_get (D := G) (ci := 5) (v := .int (nI q)) (C := RX5) (T := TX5) (N := 17) hx hb hts hin5 hown hK hP 0 rfl rfl 13 (by decide) fl_93 (fun _ h9 => h9) rfl dX5_locker_32 ?_
                refine lv_icmp_ge (tgt := 116) hx hb dX5_locker_35 (by decide) (fun c_35 => ?_) (fun c_35 => ?_)
                · have hE : i = q := by
                    have := fw_nle c_35 (by omega) (by omega)
                    omega
                  refine lv_iload hx hb dX5_locker_116 (lv_at hl 1 rfl) ?_
                  refine lv_istore_n (lv' := [(3, .int (nI fnd)), (7, .int (nI i)), (6, .int (nI fnd)), (5, .int (nI t)), (4, .int hw2), (0, .ref (a 0)), (1, .int x1), (2, .int x2)]) hx hb dX5_locker_118 rfl hl (by decide) rfl (fun ls hl => ?_)
                  refine lv_iinc (v := nI (t + 1)) (lv' := [(5, .int (nI (t + 1))), (3, .int (nI fnd)), (7, .int (nI i)), (6, .int (nI fnd)), (4, .int hw2), (0, .ref (a 0)), (1, .int x1), (2, .int x2)]) hx hb dX5_locker_119 hl (k := 3) rfl (fw_inc _) (by decide) rfl (fun ls hl => ?_)
                  refine lv_goto (tgt := 8) hx hb dX5_locker_122 (by decide) ?_
                  exact ih_8 (t + 1) fnd hw2 _ _ _ (Nat.lt_of_lt_of_le (mx_mu_lt hcz hl4 hfr) (Nat.le_of_lt_succ hn_8)) (by omega) (by omega) (by show _ = fw_it _ (t + 1) _; rw [fw_itS]; show _ = mx_lrO ru lr lb lh q x1 t (mx_lrT ru lr lb lh q x1 t); rw [← hT]; show _ = fw_it (mx_lrS ru lr lb lh x1 (nI lst)) q (0, hw); rw [← hE, ← hf]) (fun u hu => by
            rcases Nat.lt_succ_iff_lt_or_eq.mp hu with h | h
            · exact hcont u h
            · subst h; exact hct) hP hD hS (lv_sub hl [0, 4, 1, 5, 6, 7] rfl)
                · have hL : i < q := by
                    have := fw_nlt c_35 (by omega) (by omega)
                    omega
                  refine lv_aload_n hx hb dX5_locker_38 rfl (lv_at hl 5 rfl) ?_
                  refine va_get (D := G) (ci := 5) (v := .ref (a 12)) (C := RX5) (T := TX5) (N := 17) hx hb hts hin5 hown hK hP 0 rfl rfl 14 (by decide) fl_44 (fun _ h9 => h9) rfl dX5_locker_39 ?_
                  refine lv_iload hx hb dX5_locker_42 (lv_at hl 0 rfl) ?_
                  refine fw_iald (j := i) (f := lr) hx hb hK hP 12 1 rfl rfl (by omega) (by decide) dX5_locker_44 ?_
                  refine lv_iload_n hx hb dX5_locker_45 rfl (lv_at hl 6 rfl) ?_
                  refine lv_icmp_ne (tgt := 110) hx hb dX5_locker_46 (by decide) (fun c_46 => ?_) (fun c_46 => ?_)
                  · refine lv_iinc (v := nI (i + 1)) (lv' := [(7, .int (nI (i + 1))), (6, .int (nI fnd)), (5, .int (nI t)), (4, .int hw2), (3, .int (nI lst)), (0, .ref (a 0)), (1, .int x1), (2, .int x2)]) hx hb dX5_locker_110 hl (k := 0) rfl (fw_inc _) (by decide) rfl (fun ls hl => ?_)
                    refine lv_goto (tgt := 29) hx hb dX5_locker_113 (by decide) ?_
                    exact ih_29 (i + 1) fnd hw2 _ _ _ (by omega) (by omega) (hfr) (by rw [fw_itS, ← hf]; simp [mx_lrS, c_46]) hP hD hS (lv_sub hl [0, 1, 2, 3, 4, 5, 6, 7] rfl)
                  · refine lv_aload_n hx hb dX5_locker_49 rfl (lv_at hl 5 rfl) ?_
                    refine va_get (D := G) (ci := 5) (v := .ref (a 3)) (C := RX5) (T := TX5) (N := 17) hx hb hts hin5 hown hK hP 0 rfl rfl 3 (by decide) fl_16 (fun _ h9 => h9) rfl dX5_locker_50 ?_
                    refine lv_aload_n hx hb dX5_locker_53 rfl (lv_at hl 5 rfl) ?_
                    refine va_get (D := G) (ci := 5) (v := .ref (a 13)) (C := RX5) (T := TX5) (N := 17) hx hb hts hin5 hown hK hP 0 rfl rfl 15 (by decide) fl_47 (fun _ h9 => h9) rfl dX5_locker_54 ?_
                    refine lv_iload hx hb dX5_locker_57 (lv_at hl 0 rfl) ?_
                    refine fw_iald (j := i) (f := lb) hx hb hK hP 13 1 rfl rfl (by omega) (by decide) dX5_locker_59 ?_
                    obtain ⟨k2, hk24, ek2⟩ := hlb i hL
                    rw [ek2]
                    have ecl : (lb i).toNatClampNeg = k2 := by rw [ek2]; exact nI_clamp (by omega)
                    refine fw_zald (j := k2) (f := ru) hx hb hK hP 3 2 rfl rfl (by omega) (by decide) dX5_locker_60 ?_
                    refine lv_if_eq (tgt := 110) hx hb dX5_locker_61 (by decide) (fun c_61 => ?_) (fun c_61 => ?_)
                    · refine lv_iinc (v := nI (i + 1)) (lv' := [(7, .int (nI (i + 1))), (6, .int (nI fnd)), (5, .int (nI t)), (4, .int hw2), (3, .int (nI lst)), (0, .ref (a 0)), (1, .int x1), (2, .int x2)]) hx hb dX5_locker_110 hl (k := 0) rfl (fw_inc _) (by decide) rfl (fun ls hl => ?_)
                      refine lv_goto (tgt := 29) hx hb dX5_locker_113 (by decide) ?_
                      exact ih_29 (i + 1) fnd hw2 _ _ _ (by omega) (by omega) (hfr) (by rw [fw_itS, ← hf]; simp [mx_lrS, ecl, eq_true c_46, eq_true c_61]) hP hD hS (lv_sub hl [0, 1, 2, 3, 4, 5, 6, 7] rfl)
                    · refine lv_aload_n hx hb dX5_locker_64 rfl (lv_at hl 5 rfl) ?_
                      refine va_get (D := G) (ci := 5) (v := .ref (a 13)) (C := RX5) (T := TX5) (N := 17) hx hb hts hin5 hown hK hP 0 rfl rfl 15 (by decide) fl_47 (fun _ h9 => h9) rfl dX5_locker_65 ?_
                      refine lv_iload hx hb dX5_locker_68 (lv_at hl 0 rfl) ?_
                      refine fw_iald (j := i) (f := lb) hx hb hK hP 13 1 rfl rfl (by omega) (by decide) dX5_locker_70 ?_
                      refine lv_iload_n hx hb dX5_locker_71 rfl (lv_at hl 4 rfl) ?_
                      refine lv_icmp_le (tgt := 110) hx hb dX5_locker_72 (by decide) (fun c_72 => ?_) (fun c_72 => ?_)
                      · refine lv_iinc (v := nI (i + 1)) (lv' := [(7, .int (nI (i + 1))), (6, .int (nI fnd)), (5, .int (nI t)), (4, .int hw2), (3, .int (nI lst)), (0, .ref (a 0)), (1, .int x1), (2, .int x2)]) hx hb dX5_locker_110 hl (k := 0) rfl (fw_inc _) (by decide) rfl (fun ls hl => ?_)
                        refine lv_goto (tgt := 29) hx hb dX5_locker_113 (by decide) ?_
                        exact ih_29 (i + 1) fnd hw2 _ _ _ (by omega) (by omega) (hfr) (by rw [fw_itS, ← hf]; simp [mx_lrS, ecl, eq_true c_46, c_61, c_72]) hP hD hS (lv_sub hl [0, 1, 2, 3, 4, 5, 6, 7] rfl)
                      · refine lv_iload hx hb dX5_locker_75 (lv_at hl 1 rfl) ?_
                        refine lv_if_eq (tgt := 92) hx hb dX5_locker_77 (by decide) (fun c_77 => ?_) (fun c_77 => ?_)
                        · refine lv_aload_n hx hb dX5_locker_92 rfl (lv_at hl 5 rfl) ?_
                          refine va_get (D := G) (ci := 5) (v := .ref (a 13)) (C := RX5) (T := TX5) (N := 17) hx hb hts hin5 hown hK hP 0 rfl rfl 15 (by decide) fl_47 (fun _ h9 => h9) rfl dX5_locker_93 ?_
                          refine lv_iload hx hb dX5_locker_96 (lv_at hl 0 rfl) ?_
                          refine fw_iald (j := i) (f := lb) hx hb hK hP 13 1 rfl rfl (by omega) (by decide) dX5_locker_98 ?_
                          refine lv_istore (lv' := [(6, .int (lb i)), (7, .int (nI i)), (5, .int (nI t)), (4, .int hw2), (3, .int (nI lst)), (0, .ref (a 0)), (1, .int x1), (2, .int x2)]) hx hb dX5_locker_99 hl (by decide) rfl (fun ls hl => ?_)
                          refine lv_aload_n hx hb dX5_locker_101 rfl (lv_at hl 5 rfl) ?_
                          refine va_get (D := G) (ci := 5) (v := .ref (a 14)) (C := RX5) (T := TX5) (N := 17) hx hb hts hin5 hown hK hP 0 rfl rfl 16 (by decide) fl_50 (fun _ h9 => h9) rfl dX5_locker_102 ?_
                          refine lv_iload hx hb dX5_locker_105 (lv_at hl 1 rfl) ?_
                          refine fw_iald (j := i) (f := lh) hx hb hK hP 14 1 rfl rfl (by omega) (by decide) dX5_locker_107 ?_
                          refine lv_istore (lv' := [(4, .int (lh i)), (6, .int (lb i)), (7, .int (nI i)), (5, .int (nI t)), (3, .int (nI lst)), (0, .ref (a 0)), (1, .int x1), (2, .int x2)]) hx hb dX5_locker_108 hl (by decide) rfl (fun ls hl => ?_)
                          refine lv_iinc (v := nI (i + 1)) (lv' := [(7, .int (nI (i + 1))), (4, .int (lh i)), (6, .int (lb i)), (5, .int (nI t)), (3, .int (nI lst)), (0, .ref (a 0)), (1, .int x1), (2, .int x2)]) hx hb dX5_locker_110 hl (k := 2) rfl (fw_inc _) (by decide) rfl (fun ls hl => ?_)
                          refine lv_goto (tgt := 29) hx hb dX5_locker_113 (by decide) ?_
                          rw [ek2] at hl
                          exact ih_29 (i + 1) k2 (lh i) _ _ _ (by omega) (by omega) (Or.inr ⟨by have := fw_nlt (a := k2) (b := lst) (by rw [← ek2]; exact c_72) (by omega) (by omega); exact this, by omega⟩) (by rw [fw_itS, ← hf, ← ek2]; simp [mx_lrS, ecl, eq_true c_46, c_61, c_72, eq_true c_77]) hP hD hS (lv_sub hl [0, 2, 3, 1, 4, 5, 6, 7] rfl)
                        · refine lv_aload_n hx hb dX5_locker_80 rfl (lv_at hl 5 rfl) ?_
                          refine va_get (D := G) (ci := 5) (v := .ref (a 13)) (C := RX5) (T := TX5) (N := 17) hx hb hts hin5 hown hK hP 0 rfl rfl 15 (by decide) fl_47 (fun _ h9 => h9) rfl dX5_locker_81 ?_
                          refine lv_iload hx hb dX5_locker_84 (lv_at hl 0 rfl) ?_
                          refine fw_iald (j := i) (f := lb) hx hb hK hP 13 1 rfl rfl (by omega) (by decide) dX5_locker_86 ?_
                          refine lv_iload hx hb dX5_locker_87 (lv_at hl 1 rfl) ?_
                          refine lv_icmp_ge (tgt := 110) hx hb dX5_locker_89 (by decide) (fun c_89 => ?_) (fun c_89 => ?_)
                          · refine lv_iinc (v := nI (i + 1)) (lv' := [(7, .int (nI (i + 1))), (6, .int (nI fnd)), (5, .int (nI t)), (4, .int hw2), (3, .int (nI lst)), (0, .ref (a 0)), (1, .int x1), (2, .int x2)]) hx hb dX5_locker_110 hl (k := 0) rfl (fw_inc _) (by decide) rfl (fun ls hl => ?_)
                            refine lv_goto (tgt := 29) hx hb dX5_locker_113 (by decide) ?_
                            exact ih_29 (i + 1) fnd hw2 _ _ _ (by omega) (by omega) (hfr) (by rw [fw_itS, ← hf]; simp [mx_lrS, ecl, eq_true c_46, c_61, c_72, c_77, c_89]) hP hD hS (lv_sub hl [0, 1, 2, 3, 4, 5, 6, 7] rfl)
                          · refine lv_aload_n hx hb dX5_locker_92 rfl (lv_at hl 5 rfl) ?_
                            refine va_get (D := G) (ci := 5) (v := .ref (a 13)) (C := RX5) (T := TX5) (N := 17) hx hb hts hin5 hown hK hP 0 rfl rfl 15 (by decide) fl_47 (fun _ h9 => h9) rfl dX5_locker_93 ?_
                            refine lv_iload hx hb dX5_locker_96 (lv_at hl 0 rfl) ?_
                            refine fw_iald (j := i) (f := lb) hx hb hK hP 13 1 rfl rfl (by omega) (by decide) dX5_locker_98 ?_
                            refine lv_istore (lv' := [(6, .int (lb i)), (7, .int (nI i)), (5, .int (nI t)), (4, .int hw2), (3, .int (nI lst)), (0, .ref (a 0)), (1, .int x1), (2, .int x2)]) hx hb dX5_locker_99 hl (by decide) rfl (fun ls hl => ?_)
                            refine lv_aload_n hx hb dX5_locker_101 rfl (lv_at hl 5 rfl) ?_
                            refine va_get (D := G) (ci := 5) (v := .ref (a 14)) (C := RX5) (T := TX5) (N := 17) hx hb hts hin5 hown hK hP 0 rfl rfl 16 (by decide) fl_50 (fun _ h9 => h9) rfl dX5_locker_102 ?_
                            refine lv_iload hx hb dX5_locker_105 (lv_at hl 1 rfl) ?_
                            refine fw_iald (j := i) (f := lh) hx hb hK hP 14 1 rfl rfl (by omega) (by decide) dX5_locker_107 ?_
                            refine lv_istore (lv' := [(4, .int (lh i)), (6, .int (lb i)), (7, .int (nI i)), (5, .int (nI t)), (3, .int (nI lst)), (0, .ref (a 0)), (1, .int x1), (2, .int x2)]) hx hb dX5_locker_108 hl (by decide) rfl (fun ls hl => ?_)
                            refine lv_iinc (v := nI (i + 1)) (lv' := [(7, .int (nI (i + 1))), (4, .int (lh i)), (6, .int (lb i)), (5, .int (nI t)), (3, .int (nI lst)), (0, .ref (a 0)), (1, .int x1), (2, .int x2)]) hx hb dX5_locker_110 hl (k := 2) rfl (fw_inc _) (by decide) rfl (fun ls hl => ?_)
                            refine lv_goto (tgt := 29) hx hb dX5_locker_113 (by decide) ?_
                            rw [ek2] at hl
                            exact ih_29 (i + 1) k2 (lh i) _ _ _ (by omega) (by omega) (Or.inr ⟨by have := fw_nlt (a := k2) (b := lst) (by rw [← ek2]; exact c_72) (by omega) (by omega); exact this, by omega⟩) (by rw [fw_itS, ← hf, ← ek2]; simp [mx_lrS, ecl, eq_true c_46, c_61, c_72, c_77, c_89]) hP hD hS (lv_sub hl [0, 2, 3, 1, 4, 5, 6, 7] rfl)
            exact lp_29 _ 0 0 hw _ _ _ (Nat.lt_succ_self _) (by omega) (Or.inl rfl) (rfl) hP hD hS (lv_sub hl [0, 1, 2, 3, 4, 5, 6, 7] rfl)
  exact lp_8 _ 0 0 0 _ _ _ (Nat.lt_succ_self _) (by omega) (by omega) (rfl) (fun u hu => absurd hu (Nat.not_lt_zero _)) hP hD hS (lv_sub hl [0, 1, 2, 3, 4, 5] rfl)

abbrev rmX5_waiting : Room := { frames := 0, cells := 0, slots := 0, locals := 0 }
set_option maxHeartbeats 4000000 in
set_option maxRecDepth 100000 in
theorem c_X5_waiting (l : Launch) (G : va_G) (cB cI cZ : ClassId) (tc : Nat) (a : Nat → Nat) (ag ow ru hd kd tb md lv dr nb bg lr lb lh : Nat → Int32) (g : Nat) (t0 : Nat) (q : Nat) (x1 : Int32) (hI : mx_I g t0 ag ow tb md lv dr nb bg) : KC l yX5_waiting wsX5_waiting rmX5_waiting G [(cB, .byte), (cI, .int), (cZ, .boolean)] tc [.ref (a 0), .int x1] (wm a cB cI cZ ag (nI g) ow ru hd kd tb md lv dr nb bg (nI t0) (nI q) lr lb lh) (fun v w' => w' = (wm a cB cI cZ ag (nI g) ow ru hd kd tb md lv dr nb bg (nI t0) (nI q) lr lb lh) ∧ ∃ so, mx_wtR kd bg x1 so ∧ (∀ x, so = some x → x < 6) ∧ v = some (.int (px_ix so))) := by
  refine KC.of (cc := cX5_waiting) (maxL := 6) (ret := some .int) (by decide) rfl (Nat.le_of_ble_eq_true rfl) ?_
  intro p e s m below meth c args A Q ls hx hb hml hown hts hK hZ hA hP hD hS hl hri hrv
  have hown : s.vm.findClass RX5 = some m.cls := hown
  have hl : lv_has ls 6 [(0, .ref (a 0)), (1, .int x1)] := hl
  have fl_23 := hts (.fieldLink RX5 23 "LockDeskModel" "kind" "[I") (by decide +kernel)
  have fl_41 := hts (.fieldLink RX5 41 "LockDeskModel" "began" "[I") (by decide +kernel)
  have hin5 : ∀ w ∈ wsX50, w ∈ wsX5_waiting := by decide +kernel
  have hI0 := hI
  obtain ⟨hg, ht0, hag, how, htb, hmd, hdr, hlv, hnb, hbg⟩ := hI
  refine lv_iconst (v := 0) hx hb dX5_waiting_0 (by decide) ?_
  refine lv_istore_n (lv' := [(2, .int 0), (0, .ref (a 0)), (1, .int x1)]) hx hb dX5_waiting_1 rfl hl (by decide) rfl (fun ls hl => ?_)
  refine lv_iconst (v := (-1)) hx hb dX5_waiting_2 (by decide) ?_
  refine lv_istore_n (lv' := [(3, .int (-1)), (2, .int 0), (0, .ref (a 0)), (1, .int x1)]) hx hb dX5_waiting_3 rfl hl (by decide) rfl (fun ls hl => ?_)
  refine lv_iconst (v := 0) hx hb dX5_waiting_4 (by decide) ?_
  refine lv_istore (lv' := [(4, .int 0), (3, .int (-1)), (2, .int 0), (0, .ref (a 0)), (1, .int x1)]) hx hb dX5_waiting_5 hl (by decide) rfl (fun ls hl => ?_)
  have lp_7 : ∀ (nf : Nat) (t lst : Nat) (so : Option Nat) (H : Heap) (locs : List Loc) (ls : Array Slot), mx_mw t lst so < nf → (lst ≤ t0) → ((t = 0 ∧ lst = 0) ∨ (1 ≤ t ∧ t ≤ lst ∧ ∃ x, so = some x) ∨ (1 ≤ t ∧ t ≤ 1001 ∧ so = none)) → (∀ x, so = some x → x < 6) → ((nI lst, so) = mx_wtT kd bg t) → (∀ u, u < t → ¬ x1 < nI u ∧ (u = 0 ∨ (mx_wtT kd bg u).2 ≠ none)) → va_P G vwCl (wm a cB cI cZ ag (nI g) ow ru hd kd tb md lv dr nb bg (nI t0) (nI q) lr lb lh) H → va_D A (wm a cB cI cZ ag (nI g) ow ru hd kd tb md lv dr nb bg (nI t0) (nI q) lr lb lh) → va_S A s.heap H locs → lv_has ls 6 [(4, .int (nI t)), (3, .int (px_ix so)), (2, .int (nI lst)), (0, .ref (a 0)), (1, .int x1)] → W p l e rmX5_waiting s m args below meth c H locs 0 0 Q (F0 m 7 ls []) := by
    intro nf
    induction nf with
    | zero => intro t lst so H locs ls h0; exact absurd h0 (Nat.not_lt_zero _)
    | succ nf_7 ih_7 =>
      intro t lst so H locs ls hn_7 hl1 hJ hso hT hcont hP hD hS hl
      refine lv_iload hx hb dX5_waiting_7 (lv_at hl 0 rfl) ?_
      refine lv_iload_n hx hb dX5_waiting_9 rfl (lv_at hl 4 rfl) ?_
      refine lv_icmp_gt (tgt := 109) hx hb dX5_waiting_10 (by decide) (fun c_10 => ?_) (fun c_10 => ?_)
      · have hR : mx_wtR kd bg x1 so := ⟨t, by omega, by rw [← hT], hcont, Or.inl c_10⟩
        refine lv_iload_n hx hb dX5_waiting_109 rfl (lv_at hl 1 rfl) ?_
        exact hri _ rfl (px_ix so) _ _ _ _ _ (rfl) (⟨rfl, so, hR, hso, rfl⟩) hP hD hS dX5_waiting_110
      · refine lv_iload hx hb dX5_waiting_13 (lv_at hl 0 rfl) ?_
        refine lv_if_eq (tgt := 22) hx hb dX5_waiting_15 (by decide) (fun c_15 => ?_) (fun c_15 => ?_)
        · have h16 : t = 0 := (nI_eq (a := t) (b := 0) (by omega) (by decide)).mp c_15
          have hcz : t = 0 ∨ so ≠ none := Or.inl h16
          have hct : ¬ x1 < nI t ∧ (t = 0 ∨ (mx_wtT kd bg t).2 ≠ none) := ⟨c_10, Or.inl h16⟩
          have htl : t ≤ 1000 := by omega
          have htl2 : t ≤ lst := by omega
          refine lv_iconst (v := (-1)) hx hb dX5_waiting_22 (by decide) ?_
          refine lv_istore_n (lv' := [(3, .int (-1)), (4, .int (nI t)), (2, .int (nI lst)), (0, .ref (a 0)), (1, .int x1)]) hx hb dX5_waiting_23 rfl hl (by decide) rfl (fun ls hl => ?_)
          refine lv_iconst (v := 0) hx hb dX5_waiting_24 (by decide) ?_
          refine lv_istore (lv' := [(5, .int 0), (3, .int (-1)), (4, .int (nI t)), (2, .int (nI lst)), (0, .ref (a 0)), (1, .int x1)]) hx hb dX5_waiting_25 hl (by decide) rfl (fun ls hl => ?_)
          have lp_27 : ∀ (nf : Nat) (j : Nat) (s2 : Option Nat) (H : Heap) (locs : List Loc) (ls : Array Slot), 6 - j < nf → (j ≤ 6) → (∀ x, s2 = some x → x < j ∧ ¬ bg x ≤ nI lst) → (s2 = fw_it (mx_wtS kd bg (nI lst)) j none) → va_P G vwCl (wm a cB cI cZ ag (nI g) ow ru hd kd tb md lv dr nb bg (nI t0) (nI q) lr lb lh) H → va_D A (wm a cB cI cZ ag (nI g) ow ru hd kd tb md lv dr nb bg (nI t0) (nI q) lr lb lh) → va_S A s.heap H locs → lv_has ls 6 [(5, .int (nI j)), (3, .int (px_ix s2)), (4, .int (nI t)), (2, .int (nI lst)), (0, .ref (a 0)), (1, .int x1)] → W p l e rmX5_waiting s m args below meth c H locs 0 0 Q (F0 m 27 ls []) := by
            intro nf
            induction nf with
            | zero => intro j s2 H locs ls h0; exact absurd h0 (Nat.not_lt_zero _)
            | succ nf_27 ih_27 =>
              intro j s2 H locs ls hn_27 hj hs2 hf hP hD hS hl
              refine lv_iload hx hb dX5_waiting_27 (lv_at hl 0 rfl) ?_
              refine lv_bipush (v := 6) hx hb dX5_waiting_29 (by decide) ?_
              refine lv_icmp_ge (tgt := 88) hx hb dX5_waiting_31 (by decide) (fun c_31 => ?_) (fun c_31 => ?_)
              · have hE : j = 6 := by
                  have := fw_nle (a := 6) c_31 (by omega) (by omega)
                  omega
                have hs6 : ∀ x, s2 = some x → x < 6 := fun x h => by have := (hs2 x h).1; omega
                refine lv_iload_n hx hb dX5_waiting_88 rfl (lv_at hl 1 rfl) ?_
                refine lv_if_ge (tgt := 96) hx hb dX5_waiting_89 (by decide) (fun c_89 => ?_) (fun c_89 => ?_)
                · obtain ⟨x2, c_89⟩ := mx_ixg c_89
                  subst c_89
                  have hx26 := hs6 x2 rfl
                  obtain ⟨b2, hb2t, eb2⟩ := hbg x2 hx26
                  have hb2l : lst < b2 := fw_nlt (by rw [← eb2]; exact (hs2 x2 rfl).2) (by omega) (by omega)
                  have hl : lv_has ls 6 [(5, .int (nI j)), (3, .int (nI x2)), (4, .int (nI t)), (2, .int (nI lst)), (0, .ref (a 0)), (1, .int x1)] := hl
                  refine lv_aload_n hx hb dX5_waiting_96 rfl (lv_at hl 4 rfl) ?_
                  refine va_get (D := G) (ci := 5) (v := .ref (a 11)) (C := RX5) (T := TX5) (N := 17) hx hb hts hin5 hown hK hP 0 rfl rfl 11 (by decide) fl_41 (fun _ h9 => h9) rfl dX5_waiting_97 ?_
                  refine lv_iload_n hx hb dX5_waiting_100 rfl (lv_at hl 1 rfl) ?_
                  refine fw_iald (j := x2) (f := bg) hx hb hK hP 11 1 rfl rfl (by omega) (by decide) dX5_waiting_101 ?_
                  rw [eb2]
                  refine lv_istore_n (lv' := [(2, .int (nI b2)), (5, .int (nI j)), (3, .int (nI x2)), (4, .int (nI t)), (0, .ref (a 0)), (1, .int x1)]) hx hb dX5_waiting_102 rfl hl (by decide) rfl (fun ls hl => ?_)
                  refine lv_iinc (v := nI (t + 1)) (lv' := [(4, .int (nI (t + 1))), (2, .int (nI b2)), (5, .int (nI j)), (3, .int (nI x2)), (0, .ref (a 0)), (1, .int x1)]) hx hb dX5_waiting_103 hl (k := 3) rfl (fw_inc _) (by decide) rfl (fun ls hl => ?_)
                  refine lv_goto (tgt := 7) hx hb dX5_waiting_106 (by decide) ?_
                  exact ih_7 (t + 1) b2 (some x2) _ _ _ (Nat.lt_of_lt_of_le (mx_mw_s (by omega) hcz hb2l) (Nat.le_of_lt_succ hn_7)) (by omega) (Or.inr (Or.inl ⟨by omega, by omega, x2, rfl⟩)) (fun x h => by cases h; exact hx26) (by show _ = fw_it _ (t + 1) _; rw [fw_itS]; show _ = mx_wtO kd bg t (mx_wtT kd bg t); rw [← hT]; show _ = (match fw_it (mx_wtS kd bg (nI lst)) 6 none with | none => nI lst | some x => bg x, fw_it (mx_wtS kd bg (nI lst)) 6 none); rw [← hE, ← hf]; rw [← eb2]) (fun u hu => by
            rcases Nat.lt_succ_iff_lt_or_eq.mp hu with h | h
            · exact hcont u h
            · subst h; exact hct) hP hD hS (lv_sub hl [0, 3, 1, 4, 5] rfl)
                · have c_89 := mx_ixl hs6 c_89
                  subst c_89
                  refine lv_iload_n hx hb dX5_waiting_92 rfl (lv_at hl 3 rfl) ?_
                  refine lv_goto (tgt := 102) hx hb dX5_waiting_93 (by decide) ?_
                  refine lv_istore_n (lv' := [(2, .int (nI lst)), (5, .int (nI j)), (3, .int (px_ix none)), (4, .int (nI t)), (0, .ref (a 0)), (1, .int x1)]) hx hb dX5_waiting_102 rfl hl (by decide) rfl (fun ls hl => ?_)
                  refine lv_iinc (v := nI (t + 1)) (lv' := [(4, .int (nI (t + 1))), (2, .int (nI lst)), (5, .int (nI j)), (3, .int (px_ix none)), (0, .ref (a 0)), (1, .int x1)]) hx hb dX5_waiting_103 hl (k := 3) rfl (fw_inc _) (by decide) rfl (fun ls hl => ?_)
                  refine lv_goto (tgt := 7) hx hb dX5_waiting_106 (by decide) ?_
                  exact ih_7 (t + 1) lst none _ _ _ (Nat.lt_of_lt_of_le (mx_mw_n (by omega) hcz) (Nat.le_of_lt_succ hn_7)) (hl1) (Or.inr (Or.inr ⟨by omega, by omega, rfl⟩)) (fun x h => by cases h) (by show _ = fw_it _ (t + 1) _; rw [fw_itS]; show _ = mx_wtO kd bg t (mx_wtT kd bg t); rw [← hT]; show _ = (match fw_it (mx_wtS kd bg (nI lst)) 6 none with | none => nI lst | some x => bg x, fw_it (mx_wtS kd bg (nI lst)) 6 none); rw [← hE, ← hf]) (fun u hu => by
            rcases Nat.lt_succ_iff_lt_or_eq.mp hu with h | h
            · exact hcont u h
            · subst h; exact hct) hP hD hS (lv_sub hl [0, 3, 1, 4, 5] rfl)
              · have hL : j < 6 := by
                  have := fw_nlt (a := 6) c_31 (by omega) (by omega)
                  omega
                have hs6 : ∀ x, s2 = some x → x < 6 := fun x h => by have := (hs2 x h).1; omega
                refine lv_aload_n hx hb dX5_waiting_34 rfl (lv_at hl 4 rfl) ?_
                refine va_get (D := G) (ci := 5) (v := .ref (a 5)) (C := RX5) (T := TX5) (N := 17) hx hb hts hin5 hown hK hP 0 rfl rfl 5 (by decide) fl_23 (fun _ h9 => h9) rfl dX5_waiting_35 ?_
                refine lv_iload hx hb dX5_waiting_38 (lv_at hl 0 rfl) ?_
                refine fw_iald (j := j) (f := kd) hx hb hK hP 5 1 rfl rfl (by omega) (by decide) dX5_waiting_40 ?_
                refine lv_if_eq (tgt := 80) hx hb dX5_waiting_41 (by decide) (fun c_41 => ?_) (fun c_41 => ?_)
                · refine lv_iload_n hx hb dX5_waiting_80 rfl (lv_at hl 1 rfl) ?_
                  refine lv_istore_n (lv' := [(3, .int (px_ix s2)), (5, .int (nI j)), (4, .int (nI t)), (2, .int (nI lst)), (0, .ref (a 0)), (1, .int x1)]) hx hb dX5_waiting_81 rfl hl (by decide) rfl (fun ls hl => ?_)
                  refine lv_iinc (v := nI (j + 1)) (lv' := [(5, .int (nI (j + 1))), (3, .int (px_ix s2)), (4, .int (nI t)), (2, .int (nI lst)), (0, .ref (a 0)), (1, .int x1)]) hx hb dX5_waiting_82 hl (k := 1) rfl (fw_inc _) (by decide) rfl (fun ls hl => ?_)
                  refine lv_goto (tgt := 27) hx hb dX5_waiting_85 (by decide) ?_
                  exact ih_27 (j + 1) s2 _ _ _ (by omega) (by omega) (fun x h => ⟨by have := (hs2 x h).1; omega, (hs2 x h).2⟩) (by rw [fw_itS, ← hf]; simp [mx_wtS, c_41]) hP hD hS (lv_sub hl [0, 1, 2, 3, 4, 5] rfl)
                · refine lv_aload_n hx hb dX5_waiting_44 rfl (lv_at hl 4 rfl) ?_
                  refine va_get (D := G) (ci := 5) (v := .ref (a 11)) (C := RX5) (T := TX5) (N := 17) hx hb hts hin5 hown hK hP 0 rfl rfl 11 (by decide) fl_41 (fun _ h9 => h9) rfl dX5_waiting_45 ?_
                  refine lv_iload hx hb dX5_waiting_48 (lv_at hl 0 rfl) ?_
                  refine fw_iald (j := j) (f := bg) hx hb hK hP 11 1 rfl rfl (by omega) (by decide) dX5_waiting_50 ?_
                  refine lv_iload_n hx hb dX5_waiting_51 rfl (lv_at hl 3 rfl) ?_
                  refine lv_icmp_le (tgt := 80) hx hb dX5_waiting_52 (by decide) (fun c_52 => ?_) (fun c_52 => ?_)
                  · refine lv_iload_n hx hb dX5_waiting_80 rfl (lv_at hl 1 rfl) ?_
                    refine lv_istore_n (lv' := [(3, .int (px_ix s2)), (5, .int (nI j)), (4, .int (nI t)), (2, .int (nI lst)), (0, .ref (a 0)), (1, .int x1)]) hx hb dX5_waiting_81 rfl hl (by decide) rfl (fun ls hl => ?_)
                    refine lv_iinc (v := nI (j + 1)) (lv' := [(5, .int (nI (j + 1))), (3, .int (px_ix s2)), (4, .int (nI t)), (2, .int (nI lst)), (0, .ref (a 0)), (1, .int x1)]) hx hb dX5_waiting_82 hl (k := 1) rfl (fw_inc _) (by decide) rfl (fun ls hl => ?_)
                    refine lv_goto (tgt := 27) hx hb dX5_waiting_85 (by decide) ?_
                    exact ih_27 (j + 1) s2 _ _ _ (by omega) (by omega) (fun x h => ⟨by have := (hs2 x h).1; omega, (hs2 x h).2⟩) (by rw [fw_itS, ← hf]; simp [mx_wtS, c_41, c_52]) hP hD hS (lv_sub hl [0, 1, 2, 3, 4, 5] rfl)
                  · refine lv_iload_n hx hb dX5_waiting_55 rfl (lv_at hl 1 rfl) ?_
                    refine lv_if_lt (tgt := 75) hx hb dX5_waiting_56 (by decide) (fun c_56 => ?_) (fun c_56 => ?_)
                    · have c_56 := mx_ixn hs6 c_56
                      subst c_56
                      refine lv_iload hx hb dX5_waiting_75 (lv_at hl 0 rfl) ?_
                      refine lv_goto (tgt := 81) hx hb dX5_waiting_77 (by decide) ?_
                      refine lv_istore_n (lv' := [(3, .int (nI j)), (5, .int (nI j)), (4, .int (nI t)), (2, .int (nI lst)), (0, .ref (a 0)), (1, .int x1)]) hx hb dX5_waiting_81 rfl hl (by decide) rfl (fun ls hl => ?_)
                      refine lv_iinc (v := nI (j + 1)) (lv' := [(5, .int (nI (j + 1))), (3, .int (nI j)), (4, .int (nI t)), (2, .int (nI lst)), (0, .ref (a 0)), (1, .int x1)]) hx hb dX5_waiting_82 hl (k := 1) rfl (fw_inc _) (by decide) rfl (fun ls hl => ?_)
                      refine lv_goto (tgt := 27) hx hb dX5_waiting_85 (by decide) ?_
                      exact ih_27 (j + 1) (some j) _ _ _ (by omega) (by omega) (fun x h => by cases h; exact ⟨by omega, c_52⟩) (by rw [fw_itS, ← hf]; simp [mx_wtS, c_41, c_52]) hP hD hS (lv_sub hl [0, 1, 2, 3, 4, 5] rfl)
                    · obtain ⟨x3, c_56⟩ := mx_ixs c_56
                      subst c_56
                      have hx36 := hs6 x3 rfl
                      have hl : lv_has ls 6 [(5, .int (nI j)), (3, .int (nI x3)), (4, .int (nI t)), (2, .int (nI lst)), (0, .ref (a 0)), (1, .int x1)] := hl
                      refine lv_aload_n hx hb dX5_waiting_59 rfl (lv_at hl 4 rfl) ?_
                      refine va_get (D := G) (ci := 5) (v := .ref (a 11)) (C := RX5) (T := TX5) (N := 17) hx hb hts hin5 hown hK hP 0 rfl rfl 11 (by decide) fl_41 (fun _ h9 => h9) rfl dX5_waiting_60 ?_
                      refine lv_iload hx hb dX5_waiting_63 (lv_at hl 0 rfl) ?_
                      refine fw_iald (j := j) (f := bg) hx hb hK hP 11 1 rfl rfl (by omega) (by decide) dX5_waiting_65 ?_
                      refine lv_aload_n hx hb dX5_waiting_66 rfl (lv_at hl 4 rfl) ?_
                      refine va_get (D := G) (ci := 5) (v := .ref (a 11)) (C := RX5) (T := TX5) (N := 17) hx hb hts hin5 hown hK hP 0 rfl rfl 11 (by decide) fl_41 (fun _ h9 => h9) rfl dX5_waiting_67 ?_
                      refine lv_iload_n hx hb dX5_waiting_70 rfl (lv_at hl 1 rfl) ?_
                      refine fw_iald (j := x3) (f := bg) hx hb hK hP 11 1 rfl rfl (by omega) (by decide) dX5_waiting_71 ?_
                      refine lv_icmp_ge (tgt := 80) hx hb dX5_waiting_72 (by decide) (fun c_72 => ?_) (fun c_72 => ?_)
                      · refine lv_iload_n hx hb dX5_waiting_80 rfl (lv_at hl 1 rfl) ?_
                        refine lv_istore_n (lv' := [(3, .int (nI x3)), (5, .int (nI j)), (4, .int (nI t)), (2, .int (nI lst)), (0, .ref (a 0)), (1, .int x1)]) hx hb dX5_waiting_81 rfl hl (by decide) rfl (fun ls hl => ?_)
                        refine lv_iinc (v := nI (j + 1)) (lv' := [(5, .int (nI (j + 1))), (3, .int (nI x3)), (4, .int (nI t)), (2, .int (nI lst)), (0, .ref (a 0)), (1, .int x1)]) hx hb dX5_waiting_82 hl (k := 1) rfl (fw_inc _) (by decide) rfl (fun ls hl => ?_)
                        refine lv_goto (tgt := 27) hx hb dX5_waiting_85 (by decide) ?_
                        exact ih_27 (j + 1) (some x3) _ _ _ (by omega) (by omega) (fun x h => ⟨by have := (hs2 x h).1; omega, (hs2 x h).2⟩) (by rw [fw_itS, ← hf]; simp [mx_wtS, c_41, c_52, c_72]) hP hD hS (lv_sub hl [0, 1, 2, 3, 4, 5] rfl)
                      · refine lv_iload hx hb dX5_waiting_75 (lv_at hl 0 rfl) ?_
                        refine lv_goto (tgt := 81) hx hb dX5_waiting_77 (by decide) ?_
                        refine lv_istore_n (lv' := [(3, .int (nI j)), (5, .int (nI j)), (4, .int (nI t)), (2, .int (nI lst)), (0, .ref (a 0)), (1, .int x1)]) hx hb dX5_waiting_81 rfl hl (by decide) rfl (fun ls hl => ?_)
                        refine lv_iinc (v := nI (j + 1)) (lv' := [(5, .int (nI (j + 1))), (3, .int (nI j)), (4, .int (nI t)), (2, .int (nI lst)), (0, .ref (a 0)), (1, .int x1)]) hx hb dX5_waiting_82 hl (k := 1) rfl (fw_inc _) (by decide) rfl (fun ls hl => ?_)
                        refine lv_goto (tgt := 27) hx hb dX5_waiting_85 (by decide) ?_
                        exact ih_27 (j + 1) (some j) _ _ _ (by omega) (by omega) (fun x h => by cases h; exact ⟨by omega, c_52⟩) (by rw [fw_itS, ← hf]; simp [mx_wtS, c_41, c_52, c_72]) hP hD hS (lv_sub hl [0, 1, 2, 3, 4, 5] rfl)
          exact lp_27 _ 0 none _ _ _ (Nat.lt_succ_self _) (by omega) (fun x h => by cases h) (rfl) hP hD hS (lv_sub hl [0, 1, 2, 3, 4, 5] rfl)
        · have h16 : t ≠ 0 := fun e => c_15 (by rw [e]; rfl)
          refine lv_iload_n hx hb dX5_waiting_18 rfl (lv_at hl 1 rfl) ?_
          refine lv_if_lt (tgt := 109) hx hb dX5_waiting_19 (by decide) (fun c_19 => ?_) (fun c_19 => ?_)
          · have c_19 := mx_ixn hso c_19
            have hR : mx_wtR kd bg x1 so := ⟨t, by omega, by rw [← hT], hcont, Or.inr ⟨h16, c_19⟩⟩
            refine lv_iload_n hx hb dX5_waiting_109 rfl (lv_at hl 1 rfl) ?_
            exact hri _ rfl (px_ix so) _ _ _ _ _ (rfl) (⟨rfl, so, hR, hso, rfl⟩) hP hD hS dX5_waiting_110
          · obtain ⟨x9, c_19⟩ := mx_ixs c_19
            have hcz : t = 0 ∨ so ≠ none := Or.inr (by rw [c_19]; exact fun h => by cases h)
            have hct : ¬ x1 < nI t ∧ (t = 0 ∨ (mx_wtT kd bg t).2 ≠ none) := ⟨c_10, Or.inr (by rw [← hT]; show so ≠ none; rw [c_19]; exact fun h => by cases h)⟩
            have htl2 : t ≤ lst := by
              rcases hJ with h | h | h
              · omega
              · exact h.2.1
              · rw [c_19] at h; exact absurd h.2.2 (fun h => by cases h)
            have htl : t ≤ 1000 := by omega
            refine lv_iconst (v := (-1)) hx hb dX5_waiting_22 (by decide) ?_
            refine lv_istore_n (lv' := [(3, .int (-1)), (4, .int (nI t)), (2, .int (nI lst)), (0, .ref (a 0)), (1, .int x1)]) hx hb dX5_waiting_23 rfl hl (by decide) rfl (fun ls hl => ?_)
            refine lv_iconst (v := 0) hx hb dX5_waiting_24 (by decide) ?_
            refine lv_istore (lv' := [(5, .int 0), (3, .int (-1)), (4, .int (nI t)), (2, .int (nI lst)), (0, .ref (a 0)), (1, .int x1)]) hx hb dX5_waiting_25 hl (by decide) rfl (fun ls hl => ?_)
            have lp_27 : ∀ (nf : Nat) (j : Nat) (s2 : Option Nat) (H : Heap) (locs : List Loc) (ls : Array Slot), 6 - j < nf → (j ≤ 6) → (∀ x, s2 = some x → x < j ∧ ¬ bg x ≤ nI lst) → (s2 = fw_it (mx_wtS kd bg (nI lst)) j none) → va_P G vwCl (wm a cB cI cZ ag (nI g) ow ru hd kd tb md lv dr nb bg (nI t0) (nI q) lr lb lh) H → va_D A (wm a cB cI cZ ag (nI g) ow ru hd kd tb md lv dr nb bg (nI t0) (nI q) lr lb lh) → va_S A s.heap H locs → lv_has ls 6 [(5, .int (nI j)), (3, .int (px_ix s2)), (4, .int (nI t)), (2, .int (nI lst)), (0, .ref (a 0)), (1, .int x1)] → W p l e rmX5_waiting s m args below meth c H locs 0 0 Q (F0 m 27 ls []) := by
              intro nf
              induction nf with
              | zero => intro j s2 H locs ls h0; exact absurd h0 (Nat.not_lt_zero _)
              | succ nf_27 ih_27 =>
                intro j s2 H locs ls hn_27 hj hs2 hf hP hD hS hl
                refine lv_iload hx hb dX5_waiting_27 (lv_at hl 0 rfl) ?_
                refine lv_bipush (v := 6) hx hb dX5_waiting_29 (by decide) ?_
                refine lv_icmp_ge (tgt := 88) hx hb dX5_waiting_31 (by decide) (fun c_31 => ?_) (fun c_31 => ?_)
                · have hE : j = 6 := by
                    have := fw_nle (a := 6) c_31 (by omega) (by omega)
                    omega
                  have hs6 : ∀ x, s2 = some x → x < 6 := fun x h => by have := (hs2 x h).1; omega
                  refine lv_iload_n hx hb dX5_waiting_88 rfl (lv_at hl 1 rfl) ?_
                  refine lv_if_ge (tgt := 96) hx hb dX5_waiting_89 (by decide) (fun c_89 => ?_) (fun c_89 => ?_)
                  · obtain ⟨x2, c_89⟩ := mx_ixg c_89
                    subst c_89
                    have hx26 := hs6 x2 rfl
                    obtain ⟨b2, hb2t, eb2⟩ := hbg x2 hx26
                    have hb2l : lst < b2 := fw_nlt (by rw [← eb2]; exact (hs2 x2 rfl).2) (by omega) (by omega)
                    have hl : lv_has ls 6 [(5, .int (nI j)), (3, .int (nI x2)), (4, .int (nI t)), (2, .int (nI lst)), (0, .ref (a 0)), (1, .int x1)] := hl
                    refine lv_aload_n hx hb dX5_waiting_96 rfl (lv_at hl 4 rfl) ?_
                    refine va_get (D := G) (ci := 5) (v := .ref (a 11)) (C := RX5) (T := TX5) (N := 17) hx hb hts hin5 hown hK hP 0 rfl rfl 11 (by decide) fl_41 (fun _ h9 => h9) rfl dX5_waiting_97 ?_
                    refine lv_iload_n hx hb dX5_waiting_100 rfl (lv_at hl 1 rfl) ?_
                    refine fw_iald (j := x2) (f := bg) hx hb hK hP 11 1 rfl rfl (by omega) (by decide) dX5_waiting_101 ?_
                    rw [eb2]
                    refine lv_istore_n (lv' := [(2, .int (nI b2)), (5, .int (nI j)), (3, .int (nI x2)), (4, .int (nI t)), (0, .ref (a 0)), (1, .int x1)]) hx hb dX5_waiting_102 rfl hl (by decide) rfl (fun ls hl => ?_)
                    refine lv_iinc (v := nI (t + 1)) (lv' := [(4, .int (nI (t + 1))), (2, .int (nI b2)), (5, .int (nI j)), (3, .int (nI x2)), (0, .ref (a 0)), (1, .int x1)]) hx hb dX5_waiting_103 hl (k := 3) rfl (fw_inc _) (by decide) rfl (fun ls hl => ?_)
                    refine lv_goto (tgt := 7) hx hb dX5_waiting_106 (by decide) ?_
                    exact ih_7 (t + 1) b2 (some x2) _ _ _ (Nat.lt_of_lt_of_le (mx_mw_s (by omega) hcz hb2l) (Nat.le_of_lt_succ hn_7)) (by omega) (Or.inr (Or.inl ⟨by omega, by omega, x2, rfl⟩)) (fun x h => by cases h; exact hx26) (by show _ = fw_it _ (t + 1) _; rw [fw_itS]; show _ = mx_wtO kd bg t (mx_wtT kd bg t); rw [← hT]; show _ = (match fw_it (mx_wtS kd bg (nI lst)) 6 none with | none => nI lst | some x => bg x, fw_it (mx_wtS kd bg (nI lst)) 6 none); rw [← hE, ← hf]; rw [← eb2]) (fun u hu => by
            rcases Nat.lt_succ_iff_lt_or_eq.mp hu with h | h
            · exact hcont u h
            · subst h; exact hct) hP hD hS (lv_sub hl [0, 3, 1, 4, 5] rfl)
                  · have c_89 := mx_ixl hs6 c_89
                    subst c_89
                    refine lv_iload_n hx hb dX5_waiting_92 rfl (lv_at hl 3 rfl) ?_
                    refine lv_goto (tgt := 102) hx hb dX5_waiting_93 (by decide) ?_
                    refine lv_istore_n (lv' := [(2, .int (nI lst)), (5, .int (nI j)), (3, .int (px_ix none)), (4, .int (nI t)), (0, .ref (a 0)), (1, .int x1)]) hx hb dX5_waiting_102 rfl hl (by decide) rfl (fun ls hl => ?_)
                    refine lv_iinc (v := nI (t + 1)) (lv' := [(4, .int (nI (t + 1))), (2, .int (nI lst)), (5, .int (nI j)), (3, .int (px_ix none)), (0, .ref (a 0)), (1, .int x1)]) hx hb dX5_waiting_103 hl (k := 3) rfl (fw_inc _) (by decide) rfl (fun ls hl => ?_)
                    refine lv_goto (tgt := 7) hx hb dX5_waiting_106 (by decide) ?_
                    exact ih_7 (t + 1) lst none _ _ _ (Nat.lt_of_lt_of_le (mx_mw_n (by omega) hcz) (Nat.le_of_lt_succ hn_7)) (hl1) (Or.inr (Or.inr ⟨by omega, by omega, rfl⟩)) (fun x h => by cases h) (by show _ = fw_it _ (t + 1) _; rw [fw_itS]; show _ = mx_wtO kd bg t (mx_wtT kd bg t); rw [← hT]; show _ = (match fw_it (mx_wtS kd bg (nI lst)) 6 none with | none => nI lst | some x => bg x, fw_it (mx_wtS kd bg (nI lst)) 6 none); rw [← hE, ← hf]) (fun u hu => by
            rcases Nat.lt_succ_iff_lt_or_eq.mp hu with h | h
            · exact hcont u h
            · subst h; exact hct) hP hD hS (lv_sub hl [0, 3, 1, 4, 5] rfl)
                · have hL : j < 6 := by
                    have := fw_nlt (a := 6) c_31 (by omega) (by omega)
                    omega
                  have hs6 : ∀ x, s2 = some x → x < 6 := fun x h => by have := (hs2 x h).1; omega
                  refine lv_aload_n hx hb dX5_waiting_34 rfl (lv_at hl 4 rfl) ?_
                  refine va_get (D := G) (ci := 5) (v := .ref (a 5)) (C := RX5) (T := TX5) (N := 17) hx hb hts hin5 hown hK hP 0 rfl rfl 5 (by decide) fl_23 (fun _ h9 => h9) rfl dX5_waiting_35 ?_
                  refine lv_iload hx hb dX5_waiting_38 (lv_at hl 0 rfl) ?_
                  refine fw_iald (j := j) (f := kd) hx hb hK hP 5 1 rfl rfl (by omega) (by decide) dX5_waiting_40 ?_
                  refine lv_if_eq (tgt := 80) hx hb dX5_waiting_41 (by decide) (fun c_41 => ?_) (fun c_41 => ?_)
                  · refine lv_iload_n hx hb dX5_waiting_80 rfl (lv_at hl 1 rfl) ?_
                    refine lv_istore_n (lv' := [(3, .int (px_ix s2)), (5, .int (nI j)), (4, .int (nI t)), (2, .int (nI lst)), (0, .ref (a 0)), (1, .int x1)]) hx hb dX5_waiting_81 rfl hl (by decide) rfl (fun ls hl => ?_)
                    refine lv_iinc (v := nI (j + 1)) (lv' := [(5, .int (nI (j + 1))), (3, .int (px_ix s2)), (4, .int (nI t)), (2, .int (nI lst)), (0, .ref (a 0)), (1, .int x1)]) hx hb dX5_waiting_82 hl (k := 1) rfl (fw_inc _) (by decide) rfl (fun ls hl => ?_)
                    refine lv_goto (tgt := 27) hx hb dX5_waiting_85 (by decide) ?_
                    exact ih_27 (j + 1) s2 _ _ _ (by omega) (by omega) (fun x h => ⟨by have := (hs2 x h).1; omega, (hs2 x h).2⟩) (by rw [fw_itS, ← hf]; simp [mx_wtS, c_41]) hP hD hS (lv_sub hl [0, 1, 2, 3, 4, 5] rfl)
                  · refine lv_aload_n hx hb dX5_waiting_44 rfl (lv_at hl 4 rfl) ?_
                    refine va_get (D := G) (ci := 5) (v := .ref (a 11)) (C := RX5) (T := TX5) (N := 17) hx hb hts hin5 hown hK hP 0 rfl rfl 11 (by decide) fl_41 (fun _ h9 => h9) rfl dX5_waiting_45 ?_
                    refine lv_iload hx hb dX5_waiting_48 (lv_at hl 0 rfl) ?_
                    refine fw_iald (j := j) (f := bg) hx hb hK hP 11 1 rfl rfl (by omega) (by decide) dX5_waiting_50 ?_
                    refine lv_iload_n hx hb dX5_waiting_51 rfl (lv_at hl 3 rfl) ?_
                    refine lv_icmp_le (tgt := 80) hx hb dX5_waiting_52 (by decide) (fun c_52 => ?_) (fun c_52 => ?_)
                    · refine lv_iload_n hx hb dX5_waiting_80 rfl (lv_at hl 1 rfl) ?_
                      refine lv_istore_n (lv' := [(3, .int (px_ix s2)), (5, .int (nI j)), (4, .int (nI t)), (2, .int (nI lst)), (0, .ref (a 0)), (1, .int x1)]) hx hb dX5_waiting_81 rfl hl (by decide) rfl (fun ls hl => ?_)
                      refine lv_iinc (v := nI (j + 1)) (lv' := [(5, .int (nI (j + 1))), (3, .int (px_ix s2)), (4, .int (nI t)), (2, .int (nI lst)), (0, .ref (a 0)), (1, .int x1)]) hx hb dX5_waiting_82 hl (k := 1) rfl (fw_inc _) (by decide) rfl (fun ls hl => ?_)
                      refine lv_goto (tgt := 27) hx hb dX5_waiting_85 (by decide) ?_
                      exact ih_27 (j + 1) s2 _ _ _ (by omega) (by omega) (fun x h => ⟨by have := (hs2 x h).1; omega, (hs2 x h).2⟩) (by rw [fw_itS, ← hf]; simp [mx_wtS, c_41, c_52]) hP hD hS (lv_sub hl [0, 1, 2, 3, 4, 5] rfl)
                    · refine lv_iload_n hx hb dX5_waiting_55 rfl (lv_at hl 1 rfl) ?_
                      refine lv_if_lt (tgt := 75) hx hb dX5_waiting_56 (by decide) (fun c_56 => ?_) (fun c_56 => ?_)
                      · have c_56 := mx_ixn hs6 c_56
                        subst c_56
                        refine lv_iload hx hb dX5_waiting_75 (lv_at hl 0 rfl) ?_
                        refine lv_goto (tgt := 81) hx hb dX5_waiting_77 (by decide) ?_
                        refine lv_istore_n (lv' := [(3, .int (nI j)), (5, .int (nI j)), (4, .int (nI t)), (2, .int (nI lst)), (0, .ref (a 0)), (1, .int x1)]) hx hb dX5_waiting_81 rfl hl (by decide) rfl (fun ls hl => ?_)
                        refine lv_iinc (v := nI (j + 1)) (lv' := [(5, .int (nI (j + 1))), (3, .int (nI j)), (4, .int (nI t)), (2, .int (nI lst)), (0, .ref (a 0)), (1, .int x1)]) hx hb dX5_waiting_82 hl (k := 1) rfl (fw_inc _) (by decide) rfl (fun ls hl => ?_)
                        refine lv_goto (tgt := 27) hx hb dX5_waiting_85 (by decide) ?_
                        exact ih_27 (j + 1) (some j) _ _ _ (by omega) (by omega) (fun x h => by cases h; exact ⟨by omega, c_52⟩) (by rw [fw_itS, ← hf]; simp [mx_wtS, c_41, c_52]) hP hD hS (lv_sub hl [0, 1, 2, 3, 4, 5] rfl)
                      · obtain ⟨x3, c_56⟩ := mx_ixs c_56
                        subst c_56
                        have hx36 := hs6 x3 rfl
                        have hl : lv_has ls 6 [(5, .int (nI j)), (3, .int (nI x3)), (4, .int (nI t)), (2, .int (nI lst)), (0, .ref (a 0)), (1, .int x1)] := hl
                        refine lv_aload_n hx hb dX5_waiting_59 rfl (lv_at hl 4 rfl) ?_
                        refine va_get (D := G) (ci := 5) (v := .ref (a 11)) (C := RX5) (T := TX5) (N := 17) hx hb hts hin5 hown hK hP 0 rfl rfl 11 (by decide) fl_41 (fun _ h9 => h9) rfl dX5_waiting_60 ?_
                        refine lv_iload hx hb dX5_waiting_63 (lv_at hl 0 rfl) ?_
                        refine fw_iald (j := j) (f := bg) hx hb hK hP 11 1 rfl rfl (by omega) (by decide) dX5_waiting_65 ?_
                        refine lv_aload_n hx hb dX5_waiting_66 rfl (lv_at hl 4 rfl) ?_
                        refine va_get (D := G) (ci := 5) (v := .ref (a 11)) (C := RX5) (T := TX5) (N := 17) hx hb hts hin5 hown hK hP 0 rfl rfl 11 (by decide) fl_41 (fun _ h9 => h9) rfl dX5_waiting_67 ?_
                        refine lv_iload_n hx hb dX5_waiting_70 rfl (lv_at hl 1 rfl) ?_
                        refine fw_iald (j := x3) (f := bg) hx hb hK hP 11 1 rfl rfl (by omega) (by decide) dX5_waiting_71 ?_
                        refine lv_icmp_ge (tgt := 80) hx hb dX5_waiting_72 (by decide) (fun c_72 => ?_) (fun c_72 => ?_)
                        · refine lv_iload_n hx hb dX5_waiting_80 rfl (lv_at hl 1 rfl) ?_
                          refine lv_istore_n (lv' := [(3, .int (nI x3)), (5, .int (nI j)), (4, .int (nI t)), (2, .int (nI lst)), (0, .ref (a 0)), (1, .int x1)]) hx hb dX5_waiting_81 rfl hl (by decide) rfl (fun ls hl => ?_)
                          refine lv_iinc (v := nI (j + 1)) (lv' := [(5, .int (nI (j + 1))), (3, .int (nI x3)), (4, .int (nI t)), (2, .int (nI lst)), (0, .ref (a 0)), (1, .int x1)]) hx hb dX5_waiting_82 hl (k := 1) rfl (fw_inc _) (by decide) rfl (fun ls hl => ?_)
                          refine lv_goto (tgt := 27) hx hb dX5_waiting_85 (by decide) ?_
                          exact ih_27 (j + 1) (some x3) _ _ _ (by omega) (by omega) (fun x h => ⟨by have := (hs2 x h).1; omega, (hs2 x h).2⟩) (by rw [fw_itS, ← hf]; simp [mx_wtS, c_41, c_52, c_72]) hP hD hS (lv_sub hl [0, 1, 2, 3, 4, 5] rfl)
                        · refine lv_iload hx hb dX5_waiting_75 (lv_at hl 0 rfl) ?_
                          refine lv_goto (tgt := 81) hx hb dX5_waiting_77 (by decide) ?_
                          refine lv_istore_n (lv' := [(3, .int (nI j)), (5, .int (nI j)), (4, .int (nI t)), (2, .int (nI lst)), (0, .ref (a 0)), (1, .int x1)]) hx hb dX5_waiting_81 rfl hl (by decide) rfl (fun ls hl => ?_)
                          refine lv_iinc (v := nI (j + 1)) (lv' := [(5, .int (nI (j + 1))), (3, .int (nI j)), (4, .int (nI t)), (2, .int (nI lst)), (0, .ref (a 0)), (1, .int x1)]) hx hb dX5_waiting_82 hl (k := 1) rfl (fw_inc _) (by decide) rfl (fun ls hl => ?_)
                          refine lv_goto (tgt := 27) hx hb dX5_waiting_85 (by decide) ?_
                          exact ih_27 (j + 1) (some j) _ _ _ (by omega) (by omega) (fun x h => by cases h; exact ⟨by omega, c_52⟩) (by rw [fw_itS, ← hf]; simp [mx_wtS, c_41, c_52, c_72]) hP hD hS (lv_sub hl [0, 1, 2, 3, 4, 5] rfl)
            exact lp_27 _ 0 none _ _ _ (Nat.lt_succ_self _) (by omega) (fun x h => by cases h) (rfl) hP hD hS (lv_sub hl [0, 1, 2, 3, 4, 5] rfl)
  exact lp_7 _ 0 0 none _ _ _ (Nat.lt_succ_self _) (by omega) (by omega) (fun x h => by cases h) (rfl) (fun u hu => absurd hu (Nat.not_lt_zero _)) hP hD hS (lv_sub hl [0, 1, 2, 3, 4] rfl)

abbrev rmX5_next : Room := { frames := 4, cells := 0, slots := 0, locals := 95 }
set_option maxHeartbeats 4000000 in
set_option maxRecDepth 100000 in
theorem m_next (l : Launch) (G : va_G) (cB cI cZ : ClassId) (tc : Nat) (a : Nat → Nat) (ag ow ru hd kd tb md lv dr nb bg lr lb lh : Nat → Int32) (g : Nat) (t0 : Nat) (q : Nat) (hI : mx_I g t0 ag ow tb md lv dr nb bg) : KC l yX5_next wsX5_next rmX5_next G [(cB, .byte), (cI, .int), (cZ, .boolean)] tc [.ref (a 0)] (wm a cB cI cZ ag (nI g) ow ru hd kd tb md lv dr nb bg (nI t0) (nI q) lr lb lh) (fun v w' => ∃ i, i ≤ 6 ∧ (∀ j, j < i → ∃ so, mx_wtR kd bg (nI j) so ∧ (so = none ∨ ∃ x, x < 6 ∧ so = some x ∧ ¬ mx_wo ow ru hd kd tb md dr nb bg x = 0)) ∧ ((i = 6 ∧ v = some (.int (-1)) ∧ w' = (wm a cB cI cZ ag (nI g) ow ru hd kd tb md lv dr nb bg (nI t0) (nI q) lr lb lh)) ∨ (i < 6 ∧ ∃ x, x < 6 ∧ mx_wtR kd bg (nI i) (some x) ∧ mx_wo ow ru hd kd tb md dr nb bg x = 0 ∧ (if kd x = 1 then (if dr x = 0 then ∃ y k z : Nat, y < 8 ∧ k < 9 ∧ z < 8 ∧ tb x = nI y ∧ md x = nI k ∧ lv x = nI z ∧ v = some (.int (nI x)) ∧ w' = (wm a cB cI cZ ag (nI g) ow ru (upd hd (72 * x + 9 * y + k) (nI (z + 1))) (upd kd x 0) tb md lv dr nb bg (nI t0) (nI q) lr lb lh) else v = some (.int (nI x + 8)) ∧ w' = (wm a cB cI cZ ag (nI g) ow ru hd (upd kd x 0) tb md lv dr nb bg (nI t0) (nI q) lr lb lh)) else v = some (.int (nI x)) ∧ w' = (wm a cB cI cZ ag (nI g) ow ru hd (upd kd x 0) tb md lv dr nb bg (nI t0) (nI q) lr lb lh))))) := by
  refine KC.of (cc := cX5_next) (maxL := 4) (ret := some .int) (by decide) rfl (Nat.le_of_ble_eq_true rfl) ?_
  intro p e s m below meth c args A Q ls hx hb hml hown hts hK hZ hA hP hD hS hl hri hrv
  have hown : s.vm.findClass RX5 = some m.cls := hown
  have hl : lv_has ls 4 [(0, .ref (a 0))] := hl
  have fl_20 := hts (.fieldLink RX5 20 "LockDeskModel" "held" "[I") (by decide +kernel)
  have fl_23 := hts (.fieldLink RX5 23 "LockDeskModel" "kind" "[I") (by decide +kernel)
  have fl_26 := hts (.fieldLink RX5 26 "LockDeskModel" "table" "[I") (by decide +kernel)
  have fl_29 := hts (.fieldLink RX5 29 "LockDeskModel" "mode" "[I") (by decide +kernel)
  have fl_32 := hts (.fieldLink RX5 32 "LockDeskModel" "level" "[I") (by decide +kernel)
  have fl_35 := hts (.fieldLink RX5 35 "LockDeskModel" "dropped" "[Z") (by decide +kernel)
  have hin5 : ∀ w ∈ wsX50, w ∈ wsX5_next := by decide +kernel
  have hI0 := hI
  obtain ⟨hg, ht0, hag, how, htb, hmd, hdr, hlv, hnb, hbg⟩ := hI
  refine lv_iconst (v := 0) hx hb dX5_next_0 (by decide) ?_
  refine lv_istore_n (lv' := [(1, .int 0), (0, .ref (a 0))]) hx hb dX5_next_1 rfl hl (by decide) rfl (fun ls hl => ?_)
  have lp_2 : ∀ (nf : Nat) (i : Nat) (H : Heap) (locs : List Loc) (ls : Array Slot), 6 - i < nf → (i ≤ 6) → (∀ j, j < i → ∃ so, mx_wtR kd bg (nI j) so ∧ (so = none ∨ ∃ x, x < 6 ∧ so = some x ∧ ¬ mx_wo ow ru hd kd tb md dr nb bg x = 0)) → va_P G vwCl (wm a cB cI cZ ag (nI g) ow ru hd kd tb md lv dr nb bg (nI t0) (nI q) lr lb lh) H → va_D A (wm a cB cI cZ ag (nI g) ow ru hd kd tb md lv dr nb bg (nI t0) (nI q) lr lb lh) → va_S A s.heap H locs → lv_has ls 4 [(1, .int (nI i)), (0, .ref (a 0))] → W p l e rmX5_next s m args below meth c H locs 0 0 Q (F0 m 2 ls []) := by
    intro nf
    induction nf with
    | zero => intro i H locs ls h0; exact absurd h0 (Nat.not_lt_zero _)
    | succ nf_2 ih_2 =>
      intro i H locs ls hn_2 hi hall hP hD hS hl
      refine lv_iload_n hx hb dX5_next_2 rfl (lv_at hl 0 rfl) ?_
      refine lv_bipush (v := 6) hx hb dX5_next_3 (by decide) ?_
      refine lv_icmp_ge (tgt := 125) hx hb dX5_next_5 (by decide) (fun c_5 => ?_) (fun c_5 => ?_)
      · have hE : i = 6 := by
          have := fw_nle (a := 6) c_5 (by omega) (by omega)
          omega
        refine lv_iconst (v := (-1)) hx hb dX5_next_125 (by decide) ?_
        exact hri _ rfl (-1) _ _ _ _ _ (rfl) (⟨i, hi, hall, Or.inl ⟨hE, rfl, rfl⟩⟩) hP hD hS dX5_next_126
      · have hL : i < 6 := by
          have := fw_nlt (a := 6) c_5 (by omega) (by omega)
          omega
        refine lv_aload_n hx hb dX5_next_8 rfl (lv_at hl 1 rfl) ?_
        refine lv_iload_n hx hb dX5_next_9 rfl (lv_at hl 0 rfl) ?_
        refine kV (As := [.int (nI i)]) (rest := []) ⟨hx, hb, hml, hown, hts⟩ (c_X5_waiting l G cB cI cZ tc a ag ow ru hd kd tb md lv dr nb bg lr lb lh g t0 q (nI i) hI0) (cwV 1 hts gX5_next_X5_waiting rfl rfl rfl (by decide +kernel) ⟨by decide, by decide⟩) hK hZ hA hP hD hS 0 5 rfl rfl rfl hl.1 rfl (Nat.le_of_ble_eq_true rfl) dX5_next_10 ⟨Nat.zero_le _, Nat.zero_le _⟩ (fun v w' H locs hp hP hD hS => ?_)
        obtain ⟨rfl, so, hwt, hso, rfl⟩ := hp
        have hP : va_P G vwCl (wm a cB cI cZ ag (nI g) ow ru hd kd tb md lv dr nb bg (nI t0) (nI q) lr lb lh) H := hP
        have hD : va_D A (wm a cB cI cZ ag (nI g) ow ru hd kd tb md lv dr nb bg (nI t0) (nI q) lr lb lh) := hD
        refine W.eq (g2 := F0 m 13 ls [.int (px_ix so)]) rfl ?_
        refine lv_istore_n (lv' := [(2, .int (px_ix so)), (1, .int (nI i)), (0, .ref (a 0))]) hx hb dX5_next_13 rfl hl (by decide) rfl (fun ls hl => ?_)
        refine lv_iload_n hx hb dX5_next_14 rfl (lv_at hl 0 rfl) ?_
        refine lv_if_lt (tgt := 119) hx hb dX5_next_15 (by decide) (fun c_15 => ?_) (fun c_15 => ?_)
        · have c_15 := mx_ixn hso c_15
          subst c_15
          refine lv_iinc (v := nI (i + 1)) (lv' := [(1, .int (nI (i + 1))), (2, .int (px_ix none)), (0, .ref (a 0))]) hx hb dX5_next_119 hl (k := 1) rfl (fw_inc _) (by decide) rfl (fun ls hl => ?_)
          refine lv_goto (tgt := 2) hx hb dX5_next_122 (by decide) ?_
          exact ih_2 (i + 1) _ _ _ (by omega) (by omega) (fun j hj => by
            rcases Nat.lt_succ_iff_lt_or_eq.mp hj with h | h
            · exact hall j h
            · subst h; exact ⟨_, hwt, Or.inl rfl⟩) hP hD hS (lv_sub hl [0, 2] rfl)
        · obtain ⟨x, c_15⟩ := mx_ixs c_15
          subst c_15
          have hx6 := hso x rfl
          have hl : lv_has ls 4 [(2, .int (nI x)), (1, .int (nI i)), (0, .ref (a 0))] := hl
          refine lv_aload_n hx hb dX5_next_18 rfl (lv_at hl 2 rfl) ?_
          refine lv_iload_n hx hb dX5_next_19 rfl (lv_at hl 0 rfl) ?_
          refine kV (As := [.int (nI x)]) (rest := []) ⟨hx, hb, hml, hown, hts⟩ (c_X5_waitsOn l G cB cI cZ tc a ag ow ru hd kd tb md lv dr nb bg lr lb lh g t0 q x hx6 hI0) (cwV 1 hts gX5_next_X5_waitsOn rfl rfl rfl (by decide +kernel) ⟨by decide, by decide⟩) hK hZ hA hP hD hS 0 5 rfl rfl rfl hl.1 rfl (Nat.le_of_ble_eq_true rfl) dX5_next_20 ⟨Nat.zero_le _, Nat.zero_le _⟩ (fun v w' H locs hp hP hD hS => ?_)
          obtain ⟨rfl, rfl⟩ := hp
          have hP : va_P G vwCl (wm a cB cI cZ ag (nI g) ow ru hd kd tb md lv dr nb bg (nI t0) (nI q) lr lb lh) H := hP
          have hD : va_D A (wm a cB cI cZ ag (nI g) ow ru hd kd tb md lv dr nb bg (nI t0) (nI q) lr lb lh) := hD
          refine W.eq (g2 := F0 m 23 ls [.int (mx_wo ow ru hd kd tb md dr nb bg x)]) rfl ?_
          refine lv_if_ne (tgt := 119) hx hb dX5_next_23 (by decide) (fun c_23 => ?_) (fun c_23 => ?_)
          · refine lv_iinc (v := nI (i + 1)) (lv' := [(1, .int (nI (i + 1))), (2, .int (nI x)), (0, .ref (a 0))]) hx hb dX5_next_119 hl (k := 1) rfl (fw_inc _) (by decide) rfl (fun ls hl => ?_)
            refine lv_goto (tgt := 2) hx hb dX5_next_122 (by decide) ?_
            exact ih_2 (i + 1) _ _ _ (by omega) (by omega) (fun j hj => by
            rcases Nat.lt_succ_iff_lt_or_eq.mp hj with h | h
            · exact hall j h
            · subst h; exact ⟨_, hwt, Or.inr ⟨x, hx6, rfl, c_23⟩⟩) hP hD hS (lv_sub hl [0, 2] rfl)
          · refine lv_aload_n hx hb dX5_next_26 rfl (lv_at hl 2 rfl) ?_
            refine va_get (D := G) (ci := 5) (v := .ref (a 5)) (C := RX5) (T := TX5) (N := 17) hx hb hts hin5 hown hK hP 0 rfl rfl 5 (by decide) fl_23 (fun _ h9 => h9) rfl dX5_next_27 ?_
            refine lv_iload_n hx hb dX5_next_30 rfl (lv_at hl 0 rfl) ?_
            refine fw_iald (j := x) (f := kd) hx hb hK hP 5 1 rfl rfl (by omega) (by decide) dX5_next_31 ?_
            refine lv_iconst (v := 1) hx hb dX5_next_32 (by decide) ?_
            refine lv_icmp_ne (tgt := 49) hx hb dX5_next_33 (by decide) (fun c_33 => ?_) (fun c_33 => ?_)
            · refine lv_iconst (v := 0) hx hb dX5_next_49 (by decide) ?_
              refine lv_istore_n (lv' := [(3, .int 0), (2, .int (nI x)), (1, .int (nI i)), (0, .ref (a 0))]) hx hb dX5_next_50 rfl hl (by decide) rfl (fun ls hl => ?_)
              refine lv_aload_n hx hb dX5_next_51 rfl (lv_at hl 3 rfl) ?_
              refine va_get (D := G) (ci := 5) (v := .ref (a 5)) (C := RX5) (T := TX5) (N := 17) hx hb hts hin5 hown hK hP 0 rfl rfl 5 (by decide) fl_23 (fun _ h9 => h9) rfl dX5_next_52 ?_
              refine lv_iload_n hx hb dX5_next_55 rfl (lv_at hl 1 rfl) ?_
              refine fw_iald (j := x) (f := kd) hx hb hK hP 5 1 rfl rfl (by omega) (by decide) dX5_next_56 ?_
              refine lv_iconst (v := 1) hx hb dX5_next_57 (by decide) ?_
              refine lv_icmp_ne (tgt := 99) hx hb dX5_next_58 (by decide) (fun c_58 => ?_) (fun c_58 => False.elim (c_33 c_58))
              refine lv_aload_n hx hb dX5_next_99 rfl (lv_at hl 3 rfl) ?_
              refine va_get (D := G) (ci := 5) (v := .ref (a 5)) (C := RX5) (T := TX5) (N := 17) hx hb hts hin5 hown hK hP 0 rfl rfl 5 (by decide) fl_23 (fun _ h9 => h9) rfl dX5_next_100 ?_
              refine lv_iload_n hx hb dX5_next_103 rfl (lv_at hl 1 rfl) ?_
              refine lv_iconst (v := 0) hx hb dX5_next_104 (by decide) ?_
              refine fw_iast (j := x) (f := kd) (x := 0) hx hb hK hP hD hS 5 1 rfl rfl (by omega) (by decide) dX5_next_105 (fun H locs hP hD hS => ?_)
              have hP : va_P G vwCl (wm a cB cI cZ ag (nI g) ow ru hd (upd kd x 0) tb md lv dr nb bg (nI t0) (nI q) lr lb lh) H := hP
              have hD : va_D A (wm a cB cI cZ ag (nI g) ow ru hd (upd kd x 0) tb md lv dr nb bg (nI t0) (nI q) lr lb lh) := hD
              refine lv_iload_n hx hb dX5_next_106 rfl (lv_at hl 0 rfl) ?_
              refine lv_if_eq (tgt := 117) hx hb dX5_next_107 (by decide) (fun _ => ?_) (fun z9 => absurd z9 (by decide))
              refine lv_iload_n hx hb dX5_next_117 rfl (lv_at hl 1 rfl) ?_
              exact hri _ rfl (nI x) _ _ _ _ _ (rfl) (⟨i, by omega, hall, Or.inr ⟨hL, x, hx6, hwt, c_23, by rw [if_neg c_33]; exact ⟨rfl, rfl⟩⟩⟩) hP hD hS dX5_next_118
            · refine lv_aload_n hx hb dX5_next_36 rfl (lv_at hl 2 rfl) ?_
              refine va_get (D := G) (ci := 5) (v := .ref (a 9)) (C := RX5) (T := TX5) (N := 17) hx hb hts hin5 hown hK hP 0 rfl rfl 9 (by decide) fl_35 (fun _ h9 => h9) rfl dX5_next_37 ?_
              refine lv_iload_n hx hb dX5_next_40 rfl (lv_at hl 0 rfl) ?_
              refine fw_zald (j := x) (f := dr) hx hb hK hP 9 2 rfl rfl (by omega) (by decide) dX5_next_41 ?_
              refine lv_if_eq (tgt := 49) hx hb dX5_next_42 (by decide) (fun c_42 => ?_) (fun c_42 => ?_)
              · refine lv_iconst (v := 0) hx hb dX5_next_49 (by decide) ?_
                refine lv_istore_n (lv' := [(3, .int 0), (2, .int (nI x)), (1, .int (nI i)), (0, .ref (a 0))]) hx hb dX5_next_50 rfl hl (by decide) rfl (fun ls hl => ?_)
                refine lv_aload_n hx hb dX5_next_51 rfl (lv_at hl 3 rfl) ?_
                refine va_get (D := G) (ci := 5) (v := .ref (a 5)) (C := RX5) (T := TX5) (N := 17) hx hb hts hin5 hown hK hP 0 rfl rfl 5 (by decide) fl_23 (fun _ h9 => h9) rfl dX5_next_52 ?_
                refine lv_iload_n hx hb dX5_next_55 rfl (lv_at hl 1 rfl) ?_
                refine fw_iald (j := x) (f := kd) hx hb hK hP 5 1 rfl rfl (by omega) (by decide) dX5_next_56 ?_
                refine lv_iconst (v := 1) hx hb dX5_next_57 (by decide) ?_
                refine lv_icmp_ne (tgt := 99) hx hb dX5_next_58 (by decide) (fun c_58 => False.elim (c_58 c_33)) (fun c_58 => ?_)
                refine lv_iload_n hx hb dX5_next_61 rfl (lv_at hl 0 rfl) ?_
                refine lv_if_ne (tgt := 99) hx hb dX5_next_62 (by decide) (fun z9 => absurd z9 (by decide)) (fun _ => ?_)
                refine lv_aload_n hx hb dX5_next_65 rfl (lv_at hl 3 rfl) ?_
                refine va_get (D := G) (ci := 5) (v := .ref (a 4)) (C := RX5) (T := TX5) (N := 17) hx hb hts hin5 hown hK hP 0 rfl rfl 4 (by decide) fl_20 (fun _ h9 => h9) rfl dX5_next_66 ?_
                refine lv_bipush (v := 72) hx hb dX5_next_69 (by decide) ?_
                refine lv_iload_n hx hb dX5_next_71 rfl (lv_at hl 1 rfl) ?_
                refine lv_imul hx hb dX5_next_72 ?_
                refine lv_bipush (v := 9) hx hb dX5_next_73 (by decide) ?_
                refine lv_aload_n hx hb dX5_next_75 rfl (lv_at hl 3 rfl) ?_
                refine va_get (D := G) (ci := 5) (v := .ref (a 6)) (C := RX5) (T := TX5) (N := 17) hx hb hts hin5 hown hK hP 0 rfl rfl 6 (by decide) fl_26 (fun _ h9 => h9) rfl dX5_next_76 ?_
                refine lv_iload_n hx hb dX5_next_79 rfl (lv_at hl 1 rfl) ?_
                refine fw_iald (j := x) (f := tb) hx hb hK hP 6 1 rfl rfl (by omega) (by decide) dX5_next_80 ?_
                refine lv_imul hx hb dX5_next_81 ?_
                refine lv_iadd hx hb dX5_next_82 ?_
                refine lv_aload_n hx hb dX5_next_83 rfl (lv_at hl 3 rfl) ?_
                refine va_get (D := G) (ci := 5) (v := .ref (a 7)) (C := RX5) (T := TX5) (N := 17) hx hb hts hin5 hown hK hP 0 rfl rfl 7 (by decide) fl_29 (fun _ h9 => h9) rfl dX5_next_84 ?_
                refine lv_iload_n hx hb dX5_next_87 rfl (lv_at hl 1 rfl) ?_
                refine fw_iald (j := x) (f := md) hx hb hK hP 7 1 rfl rfl (by omega) (by decide) dX5_next_88 ?_
                refine lv_iadd hx hb dX5_next_89 ?_
                obtain ⟨y, hy8, ey⟩ := htb x hx6
                obtain ⟨k, hk9, ek⟩ := hmd x hx6
                obtain ⟨z, hz8, ez⟩ := hlv x hx6
                rw [ey, ek, mx_ix]
                refine lv_aload_n hx hb dX5_next_90 rfl (lv_at hl 3 rfl) ?_
                refine va_get (D := G) (ci := 5) (v := .ref (a 8)) (C := RX5) (T := TX5) (N := 17) hx hb hts hin5 hown hK hP 0 rfl rfl 8 (by decide) fl_32 (fun _ h9 => h9) rfl dX5_next_91 ?_
                refine lv_iload_n hx hb dX5_next_94 rfl (lv_at hl 1 rfl) ?_
                refine fw_iald (j := x) (f := lv) hx hb hK hP 8 1 rfl rfl (by omega) (by decide) dX5_next_95 ?_
                refine lv_iconst (v := 1) hx hb dX5_next_96 (by decide) ?_
                refine lv_iadd hx hb dX5_next_97 ?_
                rw [ez, nI_1 z]
                refine fw_iast (j := (72 * x + 9 * y + k)) (f := hd) (x := nI (z + 1)) hx hb hK hP hD hS 4 1 rfl rfl (by omega) (by decide) dX5_next_98 (fun H locs hP hD hS => ?_)
                have hP : va_P G vwCl (wm a cB cI cZ ag (nI g) ow ru (upd hd (72 * x + 9 * y + k) (nI (z + 1))) kd tb md lv dr nb bg (nI t0) (nI q) lr lb lh) H := hP
                have hD : va_D A (wm a cB cI cZ ag (nI g) ow ru (upd hd (72 * x + 9 * y + k) (nI (z + 1))) kd tb md lv dr nb bg (nI t0) (nI q) lr lb lh) := hD
                refine lv_aload_n hx hb dX5_next_99 rfl (lv_at hl 3 rfl) ?_
                refine va_get (D := G) (ci := 5) (v := .ref (a 5)) (C := RX5) (T := TX5) (N := 17) hx hb hts hin5 hown hK hP 0 rfl rfl 5 (by decide) fl_23 (fun _ h9 => h9) rfl dX5_next_100 ?_
                refine lv_iload_n hx hb dX5_next_103 rfl (lv_at hl 1 rfl) ?_
                refine lv_iconst (v := 0) hx hb dX5_next_104 (by decide) ?_
                refine fw_iast (j := x) (f := kd) (x := 0) hx hb hK hP hD hS 5 1 rfl rfl (by omega) (by decide) dX5_next_105 (fun H locs hP hD hS => ?_)
                have hP : va_P G vwCl (wm a cB cI cZ ag (nI g) ow ru (upd hd (72 * x + 9 * y + k) (nI (z + 1))) (upd kd x 0) tb md lv dr nb bg (nI t0) (nI q) lr lb lh) H := hP
                have hD : va_D A (wm a cB cI cZ ag (nI g) ow ru (upd hd (72 * x + 9 * y + k) (nI (z + 1))) (upd kd x 0) tb md lv dr nb bg (nI t0) (nI q) lr lb lh) := hD
                refine lv_iload_n hx hb dX5_next_106 rfl (lv_at hl 0 rfl) ?_
                refine lv_if_eq (tgt := 117) hx hb dX5_next_107 (by decide) (fun _ => ?_) (fun z9 => absurd z9 (by decide))
                refine lv_iload_n hx hb dX5_next_117 rfl (lv_at hl 1 rfl) ?_
                exact hri _ rfl (nI x) _ _ _ _ _ (rfl) (⟨i, by omega, hall, Or.inr ⟨hL, x, hx6, hwt, c_23, by rw [if_pos c_33, if_pos c_42]; exact ⟨y, k, z, hy8, hk9, hz8, ey, ek, ez, rfl, rfl⟩⟩⟩) hP hD hS dX5_next_118
              · refine lv_iconst (v := 1) hx hb dX5_next_45 (by decide) ?_
                refine lv_goto (tgt := 50) hx hb dX5_next_46 (by decide) ?_
                refine lv_istore_n (lv' := [(3, .int 1), (2, .int (nI x)), (1, .int (nI i)), (0, .ref (a 0))]) hx hb dX5_next_50 rfl hl (by decide) rfl (fun ls hl => ?_)
                refine lv_aload_n hx hb dX5_next_51 rfl (lv_at hl 3 rfl) ?_
                refine va_get (D := G) (ci := 5) (v := .ref (a 5)) (C := RX5) (T := TX5) (N := 17) hx hb hts hin5 hown hK hP 0 rfl rfl 5 (by decide) fl_23 (fun _ h9 => h9) rfl dX5_next_52 ?_
                refine lv_iload_n hx hb dX5_next_55 rfl (lv_at hl 1 rfl) ?_
                refine fw_iald (j := x) (f := kd) hx hb hK hP 5 1 rfl rfl (by omega) (by decide) dX5_next_56 ?_
                refine lv_iconst (v := 1) hx hb dX5_next_57 (by decide) ?_
                refine lv_icmp_ne (tgt := 99) hx hb dX5_next_58 (by decide) (fun c_58 => False.elim (c_58 c_33)) (fun c_58 => ?_)
                refine lv_iload_n hx hb dX5_next_61 rfl (lv_at hl 0 rfl) ?_
                refine lv_if_ne (tgt := 99) hx hb dX5_next_62 (by decide) (fun _ => ?_) (fun z9 => absurd z9 (by decide))
                refine lv_aload_n hx hb dX5_next_99 rfl (lv_at hl 3 rfl) ?_
                refine va_get (D := G) (ci := 5) (v := .ref (a 5)) (C := RX5) (T := TX5) (N := 17) hx hb hts hin5 hown hK hP 0 rfl rfl 5 (by decide) fl_23 (fun _ h9 => h9) rfl dX5_next_100 ?_
                refine lv_iload_n hx hb dX5_next_103 rfl (lv_at hl 1 rfl) ?_
                refine lv_iconst (v := 0) hx hb dX5_next_104 (by decide) ?_
                refine fw_iast (j := x) (f := kd) (x := 0) hx hb hK hP hD hS 5 1 rfl rfl (by omega) (by decide) dX5_next_105 (fun H locs hP hD hS => ?_)
                have hP : va_P G vwCl (wm a cB cI cZ ag (nI g) ow ru hd (upd kd x 0) tb md lv dr nb bg (nI t0) (nI q) lr lb lh) H := hP
                have hD : va_D A (wm a cB cI cZ ag (nI g) ow ru hd (upd kd x 0) tb md lv dr nb bg (nI t0) (nI q) lr lb lh) := hD
                refine lv_iload_n hx hb dX5_next_106 rfl (lv_at hl 0 rfl) ?_
                refine lv_if_eq (tgt := 117) hx hb dX5_next_107 (by decide) (fun z9 => absurd z9 (by decide)) (fun _ => ?_)
                refine lv_iload_n hx hb dX5_next_110 rfl (lv_at hl 1 rfl) ?_
                refine lv_bipush (v := 8) hx hb dX5_next_111 (by decide) ?_
                refine lv_iadd hx hb dX5_next_113 ?_
                refine lv_goto (tgt := 118) hx hb dX5_next_114 (by decide) ?_
                exact hri _ rfl ((nI x) + 8) _ _ _ _ _ (rfl) (⟨i, by omega, hall, Or.inr ⟨hL, x, hx6, hwt, c_23, by rw [if_pos c_33, if_neg c_42]; exact ⟨rfl, rfl⟩⟩⟩) hP hD hS dX5_next_118
  exact lp_2 _ 0 _ _ _ (Nat.lt_succ_self _) (by omega) (fun j hj => absurd hj (Nat.not_lt_zero _)) hP hD hS (lv_sub hl [0, 1] rfl)
