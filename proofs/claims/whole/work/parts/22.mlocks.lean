abbrev rmX5_shrink : Room := { frames := 0, cells := 0, slots := 0, locals := 0 }
set_option maxHeartbeats 4000000 in
set_option maxRecDepth 100000 in
theorem c_X5_shrink (l : Launch) (G : va_G) (cB cI cZ : ClassId) (tc : Nat) (a : Nat → Nat) (ag ow ru hd kd tb md lv dr nb bg lr lb lh : Nat → Int32) (g : Nat) (t0 : Nat) (q : Nat) (hq6 : q ≤ 600) (hlb : ∀ i, i < q → ∃ k : Nat, k < 4001 ∧ lb i = nI k)  : KC l yX5_shrink wsX5_shrink rmX5_shrink G [(cB, .byte), (cI, .int), (cZ, .boolean)] tc [.ref (a 0)] (wm a cB cI cZ ag (nI g) ow ru hd kd tb md lv dr nb bg (nI t0) (nI q) lr lb lh) (fun v w' => v = none ∧ ∃ (c : Nat) (lr1 lb1 lh1 : Nat → Int32), (c, lr1, lb1, lh1) = mx_sh ru q (lr, lb, lh) ∧ w' = (wm a cB cI cZ ag (nI g) ow ru hd kd tb md lv dr nb bg (nI t0) (nI c) lr1 lb1 lh1)) := by
  refine KC.of (cc := cX5_shrink) (maxL := 3) (ret := none) (by decide) rfl (Nat.le_of_ble_eq_true rfl) ?_
  intro p e s m below meth c args A Q ls hx hb hml hown hts hK hZ hA hP hD hS hl hri hrv
  have hown : s.vm.findClass RX5 = some m.cls := hown
  have hl : lv_has ls 3 [(0, .ref (a 0))] := hl
  have fl_16 := hts (.fieldLink RX5 16 "LockDeskModel" "runs" "[Z") (by decide +kernel)
  have fl_44 := hts (.fieldLink RX5 44 "LockDeskModel" "lockRow" "[I") (by decide +kernel)
  have fl_47 := hts (.fieldLink RX5 47 "LockDeskModel" "lockBy" "[I") (by decide +kernel)
  have fl_50 := hts (.fieldLink RX5 50 "LockDeskModel" "lockHow" "[I") (by decide +kernel)
  have fl_93 := hts (.fieldLink RX5 93 "LockDeskModel" "locks" "I") (by decide +kernel)
  have hin5 : ∀ w ∈ wsX50, w ∈ wsX5_shrink := by decide +kernel
  refine lv_iconst (v := 0) hx hb dX5_shrink_0 (by decide) ?_
  refine lv_istore_n (lv' := [(1, .int 0), (0, .ref (a 0))]) hx hb dX5_shrink_1 rfl hl (by decide) rfl (fun ls hl => ?_)
  refine lv_iconst (v := 0) hx hb dX5_shrink_2 (by decide) ?_
  refine lv_istore_n (lv' := [(2, .int 0), (1, .int 0), (0, .ref (a 0))]) hx hb dX5_shrink_3 rfl hl (by decide) rfl (fun ls hl => ?_)
  have lp_4 : ∀ (nf : Nat) (i kp : Nat) (lr1 lb1 lh1 : Nat → Int32) (H : Heap) (locs : List Loc) (ls : Array Slot), q - i < nf → (i ≤ q) → (kp ≤ i) → (∀ j, i ≤ j → lb1 j = lb j) → ((kp, lr1, lb1, lh1) = fw_it (mx_shS ru) i (0, lr, lb, lh)) → va_P G vwCl (wm a cB cI cZ ag (nI g) ow ru hd kd tb md lv dr nb bg (nI t0) (nI q) lr1 lb1 lh1) H → va_D A (wm a cB cI cZ ag (nI g) ow ru hd kd tb md lv dr nb bg (nI t0) (nI q) lr1 lb1 lh1) → va_S A s.heap H locs → lv_has ls 3 [(2, .int (nI i)), (1, .int (nI kp)), (0, .ref (a 0))] → W p l e rmX5_shrink s m args below meth c H locs 0 0 Q (F0 m 4 ls []) := by
    intro nf
    induction nf with
    | zero => intro i kp lr1 lb1 lh1 H locs ls h0; exact absurd h0 (Nat.not_lt_zero _)
    | succ nf_4 ih_4 =>
      intro i kp lr1 lb1 lh1 H locs ls hn_4 hi hk hsame hf hP hD hS hl
      refine lv_iload_n hx hb dX5_shrink_4 rfl (lv_at hl 0 rfl) ?_
      refine lv_aload_n hx hb dX5_shrink_5 rfl (lv_at hl 2 rfl) ?_
      refine va_get (D := G) (ci := 5) (v := .int (nI q)) (C := RX5) (T := TX5) (N := 17) hx hb hts hin5 hown hK hP 0 rfl rfl 13 (by decide) fl_93 (fun _ h9 => h9) rfl dX5_shrink_6 ?_
      refine lv_icmp_ge (tgt := 71) hx hb dX5_shrink_9 (by decide) (fun c_9 => ?_) (fun c_9 => ?_)
      · have hE : i = q := by
          have := fw_nle c_9 (by omega) (by omega)
          omega
        refine lv_aload_n hx hb dX5_shrink_71 rfl (lv_at hl 2 rfl) ?_
        refine lv_iload_n hx hb dX5_shrink_72 rfl (lv_at hl 1 rfl) ?_
        refine va_put (D := G) (ci := 5) (v := .int (nI kp)) (ty := .int) (C := RX5) (T := TX5) (N := 17) hx hb hts hin5 tyX5 tyX5_ok nmX5 hown hK hP hD hS 0 rfl rfl 13 (by decide) fl_93 (fun _ h9 => h9) rfl (by decide +kernel) rfl rfl (Nat.le_of_ble_eq_true rfl) dX5_shrink_73 (fun H locs hP hD hS => ?_)
        have hP : va_P G vwCl (wm a cB cI cZ ag (nI g) ow ru hd kd tb md lv dr nb bg (nI t0) (nI kp) lr1 lb1 lh1) H := hP
        have hD : va_D A (wm a cB cI cZ ag (nI g) ow ru hd kd tb md lv dr nb bg (nI t0) (nI kp) lr1 lb1 lh1) := hD
        exact hrv rfl _ _ _ _ _ (⟨rfl, kp, lr1, lb1, lh1, by rw [mx_sh, ← hE, ← hf], rfl⟩) hP hD hS dX5_shrink_76
      · have hL : i < q := by
          have := fw_nlt c_9 (by omega) (by omega)
          omega
        refine lv_aload_n hx hb dX5_shrink_12 rfl (lv_at hl 2 rfl) ?_
        refine va_get (D := G) (ci := 5) (v := .ref (a 3)) (C := RX5) (T := TX5) (N := 17) hx hb hts hin5 hown hK hP 0 rfl rfl 3 (by decide) fl_16 (fun _ h9 => h9) rfl dX5_shrink_13 ?_
        refine lv_aload_n hx hb dX5_shrink_16 rfl (lv_at hl 2 rfl) ?_
        refine va_get (D := G) (ci := 5) (v := .ref (a 13)) (C := RX5) (T := TX5) (N := 17) hx hb hts hin5 hown hK hP 0 rfl rfl 15 (by decide) fl_47 (fun _ h9 => h9) rfl dX5_shrink_17 ?_
        refine lv_iload_n hx hb dX5_shrink_20 rfl (lv_at hl 0 rfl) ?_
        refine fw_iald (j := i) (f := lb1) hx hb hK hP 13 1 rfl rfl (by omega) (by decide) dX5_shrink_21 ?_
        obtain ⟨k, hk4, ek⟩ := hlb i hL
        have ek1 : lb1 i = nI k := (hsame i (Nat.le_refl i)).trans ek
        rw [ek1]
        have ecl : (lb1 i).toNatClampNeg = k := by rw [ek1]; exact nI_clamp (by omega)
        refine fw_zald (j := k) (f := ru) hx hb hK hP 3 2 rfl rfl (by omega) (by decide) dX5_shrink_22 ?_
        refine lv_if_eq (tgt := 65) hx hb dX5_shrink_23 (by decide) (fun c_23 => ?_) (fun c_23 => ?_)
        · refine lv_iinc (v := nI (i + 1)) (lv' := [(2, .int (nI (i + 1))), (1, .int (nI kp)), (0, .ref (a 0))]) hx hb dX5_shrink_65 hl (k := 0) rfl (fw_inc _) (by decide) rfl (fun ls hl => ?_)
          refine lv_goto (tgt := 4) hx hb dX5_shrink_68 (by decide) ?_
          exact ih_4 (i + 1) kp lr1 lb1 lh1 _ _ _ (by omega) (by omega) (by omega) (fun j hj => hsame j (by omega)) (by rw [fw_itS, ← hf]; simp [mx_shS, mx_cp, ecl, c_23]) hP hD hS (lv_sub hl [0, 1, 2] rfl)
        · refine lv_aload_n hx hb dX5_shrink_26 rfl (lv_at hl 2 rfl) ?_
          refine va_get (D := G) (ci := 5) (v := .ref (a 12)) (C := RX5) (T := TX5) (N := 17) hx hb hts hin5 hown hK hP 0 rfl rfl 14 (by decide) fl_44 (fun _ h9 => h9) rfl dX5_shrink_27 ?_
          refine lv_iload_n hx hb dX5_shrink_30 rfl (lv_at hl 1 rfl) ?_
          refine lv_aload_n hx hb dX5_shrink_31 rfl (lv_at hl 2 rfl) ?_
          refine va_get (D := G) (ci := 5) (v := .ref (a 12)) (C := RX5) (T := TX5) (N := 17) hx hb hts hin5 hown hK hP 0 rfl rfl 14 (by decide) fl_44 (fun _ h9 => h9) rfl dX5_shrink_32 ?_
          refine lv_iload_n hx hb dX5_shrink_35 rfl (lv_at hl 0 rfl) ?_
          refine fw_iald (j := i) (f := lr1) hx hb hK hP 12 1 rfl rfl (by omega) (by decide) dX5_shrink_36 ?_
          refine fw_iast (j := kp) (f := lr1) (x := lr1 i) hx hb hK hP hD hS 12 1 rfl rfl (by omega) (by decide) dX5_shrink_37 (fun H locs hP hD hS => ?_)
          have hP : va_P G vwCl (wm a cB cI cZ ag (nI g) ow ru hd kd tb md lv dr nb bg (nI t0) (nI q) (upd lr1 kp (lr1 i)) lb1 lh1) H := hP
          have hD : va_D A (wm a cB cI cZ ag (nI g) ow ru hd kd tb md lv dr nb bg (nI t0) (nI q) (upd lr1 kp (lr1 i)) lb1 lh1) := hD
          refine lv_aload_n hx hb dX5_shrink_38 rfl (lv_at hl 2 rfl) ?_
          refine va_get (D := G) (ci := 5) (v := .ref (a 13)) (C := RX5) (T := TX5) (N := 17) hx hb hts hin5 hown hK hP 0 rfl rfl 15 (by decide) fl_47 (fun _ h9 => h9) rfl dX5_shrink_39 ?_
          refine lv_iload_n hx hb dX5_shrink_42 rfl (lv_at hl 1 rfl) ?_
          refine lv_aload_n hx hb dX5_shrink_43 rfl (lv_at hl 2 rfl) ?_
          refine va_get (D := G) (ci := 5) (v := .ref (a 13)) (C := RX5) (T := TX5) (N := 17) hx hb hts hin5 hown hK hP 0 rfl rfl 15 (by decide) fl_47 (fun _ h9 => h9) rfl dX5_shrink_44 ?_
          refine lv_iload_n hx hb dX5_shrink_47 rfl (lv_at hl 0 rfl) ?_
          refine fw_iald (j := i) (f := lb1) hx hb hK hP 13 1 rfl rfl (by omega) (by decide) dX5_shrink_48 ?_
          refine fw_iast (j := kp) (f := lb1) (x := lb1 i) hx hb hK hP hD hS 13 1 rfl rfl (by omega) (by decide) dX5_shrink_49 (fun H locs hP hD hS => ?_)
          have hP : va_P G vwCl (wm a cB cI cZ ag (nI g) ow ru hd kd tb md lv dr nb bg (nI t0) (nI q) (upd lr1 kp (lr1 i)) (upd lb1 kp (lb1 i)) lh1) H := hP
          have hD : va_D A (wm a cB cI cZ ag (nI g) ow ru hd kd tb md lv dr nb bg (nI t0) (nI q) (upd lr1 kp (lr1 i)) (upd lb1 kp (lb1 i)) lh1) := hD
          refine lv_aload_n hx hb dX5_shrink_50 rfl (lv_at hl 2 rfl) ?_
          refine va_get (D := G) (ci := 5) (v := .ref (a 14)) (C := RX5) (T := TX5) (N := 17) hx hb hts hin5 hown hK hP 0 rfl rfl 16 (by decide) fl_50 (fun _ h9 => h9) rfl dX5_shrink_51 ?_
          refine lv_iload_n hx hb dX5_shrink_54 rfl (lv_at hl 1 rfl) ?_
          refine lv_aload_n hx hb dX5_shrink_55 rfl (lv_at hl 2 rfl) ?_
          refine va_get (D := G) (ci := 5) (v := .ref (a 14)) (C := RX5) (T := TX5) (N := 17) hx hb hts hin5 hown hK hP 0 rfl rfl 16 (by decide) fl_50 (fun _ h9 => h9) rfl dX5_shrink_56 ?_
          refine lv_iload_n hx hb dX5_shrink_59 rfl (lv_at hl 0 rfl) ?_
          refine fw_iald (j := i) (f := lh1) hx hb hK hP 14 1 rfl rfl (by omega) (by decide) dX5_shrink_60 ?_
          refine fw_iast (j := kp) (f := lh1) (x := lh1 i) hx hb hK hP hD hS 14 1 rfl rfl (by omega) (by decide) dX5_shrink_61 (fun H locs hP hD hS => ?_)
          have hP : va_P G vwCl (wm a cB cI cZ ag (nI g) ow ru hd kd tb md lv dr nb bg (nI t0) (nI q) (upd lr1 kp (lr1 i)) (upd lb1 kp (lb1 i)) (upd lh1 kp (lh1 i))) H := hP
          have hD : va_D A (wm a cB cI cZ ag (nI g) ow ru hd kd tb md lv dr nb bg (nI t0) (nI q) (upd lr1 kp (lr1 i)) (upd lb1 kp (lb1 i)) (upd lh1 kp (lh1 i))) := hD
          refine lv_iinc (v := nI (kp + 1)) (lv' := [(1, .int (nI (kp + 1))), (2, .int (nI i)), (0, .ref (a 0))]) hx hb dX5_shrink_62 hl (k := 1) rfl (fw_inc _) (by decide) rfl (fun ls hl => ?_)
          refine lv_iinc (v := nI (i + 1)) (lv' := [(2, .int (nI (i + 1))), (1, .int (nI (kp + 1))), (0, .ref (a 0))]) hx hb dX5_shrink_65 hl (k := 1) rfl (fw_inc _) (by decide) rfl (fun ls hl => ?_)
          refine lv_goto (tgt := 4) hx hb dX5_shrink_68 (by decide) ?_
          exact ih_4 (i + 1) (kp + 1) (upd lr1 kp (lr1 i)) (upd lb1 kp (lb1 i)) (upd lh1 kp (lh1 i)) _ _ _ (by omega) (by omega) (by omega) (fun j hj => by rw [pk_un (by omega)]; exact hsame j (by omega)) (by rw [fw_itS, ← hf]; simp [mx_shS, mx_cp, ecl, c_23]) hP hD hS (lv_sub hl [0, 1, 2] rfl)
  exact lp_4 _ 0 0 lr lb lh _ _ _ (Nat.lt_succ_self _) (by omega) (by omega) (fun _ _ => rfl) (rfl) hP hD hS (lv_sub hl [0, 1, 2] rfl)

abbrev rmX5_clear : Room := { frames := 1, cells := 0, slots := 0, locals := 22 }
set_option maxHeartbeats 4000000 in
set_option maxRecDepth 100000 in
theorem m_clear_no (l : Launch) (G : va_G) (cB cI cZ : ClassId) (tc : Nat) (a : Nat → Nat) (ag ow ru hd kd tb md lv dr nb bg lr lb lh : Nat → Int32) (g : Nat) (t0 : Nat) (q : Nat) (x1 : Int32) (h : px_isR x1 = false) : KC l yX5_clear wsX5_clear rmX5_clear G [(cB, .byte), (cI, .int), (cZ, .boolean)] tc [.ref (a 0), .int x1] (wm a cB cI cZ ag (nI g) ow ru hd kd tb md lv dr nb bg (nI t0) (nI q) lr lb lh) (fun v w' => v = some (.int (0)) ∧ w' = (wm a cB cI cZ ag (nI g) ow ru hd kd tb md lv dr nb bg (nI t0) (nI q) lr lb lh)) := by
  refine KC.of (cc := cX5_clear) (maxL := 4) (ret := some .boolean) (by decide) rfl (Nat.le_of_ble_eq_true rfl) ?_
  intro p e s m below meth c args A Q ls hx hb hml hown hts hK hZ hA hP hD hS hl hri hrv
  have hown : s.vm.findClass RX5 = some m.cls := hown
  have hl : lv_has ls 4 [(0, .ref (a 0)), (1, .int x1)] := hl
  have fl_44 := hts (.fieldLink RX5 44 "LockDeskModel" "lockRow" "[I") (by decide +kernel)
  have fl_47 := hts (.fieldLink RX5 47 "LockDeskModel" "lockBy" "[I") (by decide +kernel)
  have fl_50 := hts (.fieldLink RX5 50 "LockDeskModel" "lockHow" "[I") (by decide +kernel)
  have fl_93 := hts (.fieldLink RX5 93 "LockDeskModel" "locks" "I") (by decide +kernel)
  have hin5 : ∀ w ∈ wsX50, w ∈ wsX5_clear := by decide +kernel
  refine lv_iload_n hx hb dX5_clear_0 rfl (lv_at hl 1 rfl) ?_
  refine lv_iconst (v := 0) hx hb dX5_clear_1 (by decide) ?_
  refine lv_sipush (v := 1199) hx hb dX5_clear_2 (by decide) ?_
  refine kS (As := [.int x1, .int 0, .int 1199]) (rest := []) ⟨hx, hb, hml, hown, hts⟩ (c_X5_in l G [(cB, .byte), (cI, .int), (cZ, .boolean)] tc (wm a cB cI cZ ag (nI g) ow ru hd kd tb md lv dr nb bg (nI t0) (nI q) lr lb lh) x1 0 1199) (va_cwS 3 hts gX5_clear_X5_in rfl rfl rfl (by decide +kernel) ⟨by decide, by decide⟩) hK hZ hA hP hD hS rfl hl.1 rfl (Nat.le_of_ble_eq_true rfl) dX5_clear_5 ⟨Nat.zero_le _, Nat.zero_le _⟩ (fun v w' H locs hp hP hD hS => ?_)
  obtain ⟨rfl, rfl⟩ := hp
  rw [mx_inR]
  have hP : va_P G vwCl (wm a cB cI cZ ag (nI g) ow ru hd kd tb md lv dr nb bg (nI t0) (nI q) lr lb lh) H := hP
  have hD : va_D A (wm a cB cI cZ ag (nI g) ow ru hd kd tb md lv dr nb bg (nI t0) (nI q) lr lb lh) := hD
  refine W.eq (g2 := F0 m 8 ls [.int (fw_b (px_isR x1))]) rfl ?_
  refine lv_if_ne (tgt := 13) hx hb dX5_clear_8 (by decide) (fun c_8 => False.elim (by rw [h] at c_8; exact c_8 rfl)) (fun c_8 => ?_)
  have c_8 := fw_b0.mp c_8
  refine lv_iconst (v := 0) hx hb dX5_clear_11 (by decide) ?_
  exact hri _ rfl 0 _ _ _ _ _ (by decide) (⟨rfl, rfl⟩) hP hD hS dX5_clear_12

set_option maxHeartbeats 4000000 in
set_option maxRecDepth 100000 in
theorem m_clear_ok (l : Launch) (G : va_G) (cB cI cZ : ClassId) (tc : Nat) (a : Nat → Nat) (ag ow ru hd kd tb md lv dr nb bg lr lb lh : Nat → Int32) (g : Nat) (t0 : Nat) (q : Nat) (x1 : Int32) (hq6 : q ≤ 600) (h : px_isR x1 = true) : KC l yX5_clear wsX5_clear rmX5_clear G [(cB, .byte), (cI, .int), (cZ, .boolean)] tc [.ref (a 0), .int x1] (wm a cB cI cZ ag (nI g) ow ru hd kd tb md lv dr nb bg (nI t0) (nI q) lr lb lh) (fun v w' => v = some (.int 1) ∧ ∃ (c : Nat) (lr1 lb1 lh1 : Nat → Int32), (c, lr1, lb1, lh1) = mx_cl x1 q (lr, lb, lh) ∧ w' = (wm a cB cI cZ ag (nI g) ow ru hd kd tb md lv dr nb bg (nI t0) (nI c) lr1 lb1 lh1)) := by
  refine KC.of (cc := cX5_clear) (maxL := 4) (ret := some .boolean) (by decide) rfl (Nat.le_of_ble_eq_true rfl) ?_
  intro p e s m below meth c args A Q ls hx hb hml hown hts hK hZ hA hP hD hS hl hri hrv
  have hown : s.vm.findClass RX5 = some m.cls := hown
  have hl : lv_has ls 4 [(0, .ref (a 0)), (1, .int x1)] := hl
  have fl_44 := hts (.fieldLink RX5 44 "LockDeskModel" "lockRow" "[I") (by decide +kernel)
  have fl_47 := hts (.fieldLink RX5 47 "LockDeskModel" "lockBy" "[I") (by decide +kernel)
  have fl_50 := hts (.fieldLink RX5 50 "LockDeskModel" "lockHow" "[I") (by decide +kernel)
  have fl_93 := hts (.fieldLink RX5 93 "LockDeskModel" "locks" "I") (by decide +kernel)
  have hin5 : ∀ w ∈ wsX50, w ∈ wsX5_clear := by decide +kernel
  refine lv_iload_n hx hb dX5_clear_0 rfl (lv_at hl 1 rfl) ?_
  refine lv_iconst (v := 0) hx hb dX5_clear_1 (by decide) ?_
  refine lv_sipush (v := 1199) hx hb dX5_clear_2 (by decide) ?_
  refine kS (As := [.int x1, .int 0, .int 1199]) (rest := []) ⟨hx, hb, hml, hown, hts⟩ (c_X5_in l G [(cB, .byte), (cI, .int), (cZ, .boolean)] tc (wm a cB cI cZ ag (nI g) ow ru hd kd tb md lv dr nb bg (nI t0) (nI q) lr lb lh) x1 0 1199) (va_cwS 3 hts gX5_clear_X5_in rfl rfl rfl (by decide +kernel) ⟨by decide, by decide⟩) hK hZ hA hP hD hS rfl hl.1 rfl (Nat.le_of_ble_eq_true rfl) dX5_clear_5 ⟨Nat.zero_le _, Nat.zero_le _⟩ (fun v w' H locs hp hP hD hS => ?_)
  obtain ⟨rfl, rfl⟩ := hp
  rw [mx_inR]
  have hP : va_P G vwCl (wm a cB cI cZ ag (nI g) ow ru hd kd tb md lv dr nb bg (nI t0) (nI q) lr lb lh) H := hP
  have hD : va_D A (wm a cB cI cZ ag (nI g) ow ru hd kd tb md lv dr nb bg (nI t0) (nI q) lr lb lh) := hD
  refine W.eq (g2 := F0 m 8 ls [.int (fw_b (px_isR x1))]) rfl ?_
  refine lv_if_ne (tgt := 13) hx hb dX5_clear_8 (by decide) (fun c_8 => ?_) (fun c_8 => False.elim (by rw [h] at c_8; exact absurd c_8 (by decide)))
  have c_8 := fw_b1.mp c_8
  refine lv_iconst (v := 0) hx hb dX5_clear_13 (by decide) ?_
  refine lv_istore_n (lv' := [(2, .int 0), (0, .ref (a 0)), (1, .int x1)]) hx hb dX5_clear_14 rfl hl (by decide) rfl (fun ls hl => ?_)
  refine lv_iconst (v := 0) hx hb dX5_clear_15 (by decide) ?_
  refine lv_istore_n (lv' := [(3, .int 0), (2, .int 0), (0, .ref (a 0)), (1, .int x1)]) hx hb dX5_clear_16 rfl hl (by decide) rfl (fun ls hl => ?_)
  have lp_17 : ∀ (nf : Nat) (i kp : Nat) (lr1 lb1 lh1 : Nat → Int32) (H : Heap) (locs : List Loc) (ls : Array Slot), q - i < nf → (i ≤ q) → (kp ≤ i) → ((kp, lr1, lb1, lh1) = fw_it (mx_clS x1) i (0, lr, lb, lh)) → va_P G vwCl (wm a cB cI cZ ag (nI g) ow ru hd kd tb md lv dr nb bg (nI t0) (nI q) lr1 lb1 lh1) H → va_D A (wm a cB cI cZ ag (nI g) ow ru hd kd tb md lv dr nb bg (nI t0) (nI q) lr1 lb1 lh1) → va_S A s.heap H locs → lv_has ls 4 [(3, .int (nI i)), (2, .int (nI kp)), (0, .ref (a 0)), (1, .int x1)] → W p l e rmX5_clear s m args below meth c H locs 0 0 Q (F0 m 17 ls []) := by
    intro nf
    induction nf with
    | zero => intro i kp lr1 lb1 lh1 H locs ls h0; exact absurd h0 (Nat.not_lt_zero _)
    | succ nf_17 ih_17 =>
      intro i kp lr1 lb1 lh1 H locs ls hn_17 hi hk hf hP hD hS hl
      refine lv_iload_n hx hb dX5_clear_17 rfl (lv_at hl 0 rfl) ?_
      refine lv_aload_n hx hb dX5_clear_18 rfl (lv_at hl 2 rfl) ?_
      refine va_get (D := G) (ci := 5) (v := .int (nI q)) (C := RX5) (T := TX5) (N := 17) hx hb hts hin5 hown hK hP 0 rfl rfl 13 (by decide) fl_93 (fun _ h9 => h9) rfl dX5_clear_19 ?_
      refine lv_icmp_ge (tgt := 80) hx hb dX5_clear_22 (by decide) (fun c_22 => ?_) (fun c_22 => ?_)
      · have hE : i = q := by
          have := fw_nle c_22 (by omega) (by omega)
          omega
        refine lv_aload_n hx hb dX5_clear_80 rfl (lv_at hl 2 rfl) ?_
        refine lv_iload_n hx hb dX5_clear_81 rfl (lv_at hl 1 rfl) ?_
        refine va_put (D := G) (ci := 5) (v := .int (nI kp)) (ty := .int) (C := RX5) (T := TX5) (N := 17) hx hb hts hin5 tyX5 tyX5_ok nmX5 hown hK hP hD hS 0 rfl rfl 13 (by decide) fl_93 (fun _ h9 => h9) rfl (by decide +kernel) rfl rfl (Nat.le_of_ble_eq_true rfl) dX5_clear_82 (fun H locs hP hD hS => ?_)
        have hP : va_P G vwCl (wm a cB cI cZ ag (nI g) ow ru hd kd tb md lv dr nb bg (nI t0) (nI kp) lr1 lb1 lh1) H := hP
        have hD : va_D A (wm a cB cI cZ ag (nI g) ow ru hd kd tb md lv dr nb bg (nI t0) (nI kp) lr1 lb1 lh1) := hD
        refine lv_iconst (v := 1) hx hb dX5_clear_85 (by decide) ?_
        exact hri _ rfl 1 _ _ _ _ _ (by decide) (⟨rfl, kp, lr1, lb1, lh1, by rw [mx_cl, ← hE, ← hf], rfl⟩) hP hD hS dX5_clear_86
      · have hL : i < q := by
          have := fw_nlt c_22 (by omega) (by omega)
          omega
        refine lv_aload_n hx hb dX5_clear_25 rfl (lv_at hl 2 rfl) ?_
        refine va_get (D := G) (ci := 5) (v := .ref (a 12)) (C := RX5) (T := TX5) (N := 17) hx hb hts hin5 hown hK hP 0 rfl rfl 14 (by decide) fl_44 (fun _ h9 => h9) rfl dX5_clear_26 ?_
        refine lv_iload_n hx hb dX5_clear_29 rfl (lv_at hl 0 rfl) ?_
        refine fw_iald (j := i) (f := lr1) hx hb hK hP 12 1 rfl rfl (by omega) (by decide) dX5_clear_30 ?_
        refine lv_iload_n hx hb dX5_clear_31 rfl (lv_at hl 3 rfl) ?_
        refine lv_icmp_eq (tgt := 74) hx hb dX5_clear_32 (by decide) (fun c_32 => ?_) (fun c_32 => ?_)
        · refine lv_iinc (v := nI (i + 1)) (lv' := [(3, .int (nI (i + 1))), (2, .int (nI kp)), (0, .ref (a 0)), (1, .int x1)]) hx hb dX5_clear_74 hl (k := 0) rfl (fw_inc _) (by decide) rfl (fun ls hl => ?_)
          refine lv_goto (tgt := 17) hx hb dX5_clear_77 (by decide) ?_
          exact ih_17 (i + 1) kp lr1 lb1 lh1 _ _ _ (by omega) (by omega) (by omega) (by rw [fw_itS, ← hf]; simp [mx_clS, mx_cp, c_32]) hP hD hS (lv_sub hl [0, 1, 2, 3] rfl)
        · refine lv_aload_n hx hb dX5_clear_35 rfl (lv_at hl 2 rfl) ?_
          refine va_get (D := G) (ci := 5) (v := .ref (a 12)) (C := RX5) (T := TX5) (N := 17) hx hb hts hin5 hown hK hP 0 rfl rfl 14 (by decide) fl_44 (fun _ h9 => h9) rfl dX5_clear_36 ?_
          refine lv_iload_n hx hb dX5_clear_39 rfl (lv_at hl 1 rfl) ?_
          refine lv_aload_n hx hb dX5_clear_40 rfl (lv_at hl 2 rfl) ?_
          refine va_get (D := G) (ci := 5) (v := .ref (a 12)) (C := RX5) (T := TX5) (N := 17) hx hb hts hin5 hown hK hP 0 rfl rfl 14 (by decide) fl_44 (fun _ h9 => h9) rfl dX5_clear_41 ?_
          refine lv_iload_n hx hb dX5_clear_44 rfl (lv_at hl 0 rfl) ?_
          refine fw_iald (j := i) (f := lr1) hx hb hK hP 12 1 rfl rfl (by omega) (by decide) dX5_clear_45 ?_
          refine fw_iast (j := kp) (f := lr1) (x := lr1 i) hx hb hK hP hD hS 12 1 rfl rfl (by omega) (by decide) dX5_clear_46 (fun H locs hP hD hS => ?_)
          have hP : va_P G vwCl (wm a cB cI cZ ag (nI g) ow ru hd kd tb md lv dr nb bg (nI t0) (nI q) (upd lr1 kp (lr1 i)) lb1 lh1) H := hP
          have hD : va_D A (wm a cB cI cZ ag (nI g) ow ru hd kd tb md lv dr nb bg (nI t0) (nI q) (upd lr1 kp (lr1 i)) lb1 lh1) := hD
          refine lv_aload_n hx hb dX5_clear_47 rfl (lv_at hl 2 rfl) ?_
          refine va_get (D := G) (ci := 5) (v := .ref (a 13)) (C := RX5) (T := TX5) (N := 17) hx hb hts hin5 hown hK hP 0 rfl rfl 15 (by decide) fl_47 (fun _ h9 => h9) rfl dX5_clear_48 ?_
          refine lv_iload_n hx hb dX5_clear_51 rfl (lv_at hl 1 rfl) ?_
          refine lv_aload_n hx hb dX5_clear_52 rfl (lv_at hl 2 rfl) ?_
          refine va_get (D := G) (ci := 5) (v := .ref (a 13)) (C := RX5) (T := TX5) (N := 17) hx hb hts hin5 hown hK hP 0 rfl rfl 15 (by decide) fl_47 (fun _ h9 => h9) rfl dX5_clear_53 ?_
          refine lv_iload_n hx hb dX5_clear_56 rfl (lv_at hl 0 rfl) ?_
          refine fw_iald (j := i) (f := lb1) hx hb hK hP 13 1 rfl rfl (by omega) (by decide) dX5_clear_57 ?_
          refine fw_iast (j := kp) (f := lb1) (x := lb1 i) hx hb hK hP hD hS 13 1 rfl rfl (by omega) (by decide) dX5_clear_58 (fun H locs hP hD hS => ?_)
          have hP : va_P G vwCl (wm a cB cI cZ ag (nI g) ow ru hd kd tb md lv dr nb bg (nI t0) (nI q) (upd lr1 kp (lr1 i)) (upd lb1 kp (lb1 i)) lh1) H := hP
          have hD : va_D A (wm a cB cI cZ ag (nI g) ow ru hd kd tb md lv dr nb bg (nI t0) (nI q) (upd lr1 kp (lr1 i)) (upd lb1 kp (lb1 i)) lh1) := hD
          refine lv_aload_n hx hb dX5_clear_59 rfl (lv_at hl 2 rfl) ?_
          refine va_get (D := G) (ci := 5) (v := .ref (a 14)) (C := RX5) (T := TX5) (N := 17) hx hb hts hin5 hown hK hP 0 rfl rfl 16 (by decide) fl_50 (fun _ h9 => h9) rfl dX5_clear_60 ?_
          refine lv_iload_n hx hb dX5_clear_63 rfl (lv_at hl 1 rfl) ?_
          refine lv_aload_n hx hb dX5_clear_64 rfl (lv_at hl 2 rfl) ?_
          refine va_get (D := G) (ci := 5) (v := .ref (a 14)) (C := RX5) (T := TX5) (N := 17) hx hb hts hin5 hown hK hP 0 rfl rfl 16 (by decide) fl_50 (fun _ h9 => h9) rfl dX5_clear_65 ?_
          refine lv_iload_n hx hb dX5_clear_68 rfl (lv_at hl 0 rfl) ?_
          refine fw_iald (j := i) (f := lh1) hx hb hK hP 14 1 rfl rfl (by omega) (by decide) dX5_clear_69 ?_
          refine fw_iast (j := kp) (f := lh1) (x := lh1 i) hx hb hK hP hD hS 14 1 rfl rfl (by omega) (by decide) dX5_clear_70 (fun H locs hP hD hS => ?_)
          have hP : va_P G vwCl (wm a cB cI cZ ag (nI g) ow ru hd kd tb md lv dr nb bg (nI t0) (nI q) (upd lr1 kp (lr1 i)) (upd lb1 kp (lb1 i)) (upd lh1 kp (lh1 i))) H := hP
          have hD : va_D A (wm a cB cI cZ ag (nI g) ow ru hd kd tb md lv dr nb bg (nI t0) (nI q) (upd lr1 kp (lr1 i)) (upd lb1 kp (lb1 i)) (upd lh1 kp (lh1 i))) := hD
          refine lv_iinc (v := nI (kp + 1)) (lv' := [(2, .int (nI (kp + 1))), (3, .int (nI i)), (0, .ref (a 0)), (1, .int x1)]) hx hb dX5_clear_71 hl (k := 1) rfl (fw_inc _) (by decide) rfl (fun ls hl => ?_)
          refine lv_iinc (v := nI (i + 1)) (lv' := [(3, .int (nI (i + 1))), (2, .int (nI (kp + 1))), (0, .ref (a 0)), (1, .int x1)]) hx hb dX5_clear_74 hl (k := 1) rfl (fw_inc _) (by decide) rfl (fun ls hl => ?_)
          refine lv_goto (tgt := 17) hx hb dX5_clear_77 (by decide) ?_
          exact ih_17 (i + 1) (kp + 1) (upd lr1 kp (lr1 i)) (upd lb1 kp (lb1 i)) (upd lh1 kp (lh1 i)) _ _ _ (by omega) (by omega) (by omega) (by rw [fw_itS, ← hf]; simp [mx_clS, mx_cp, c_32]) hP hD hS (lv_sub hl [0, 1, 2, 3] rfl)
  exact lp_17 _ 0 0 lr lb lh _ _ _ (Nat.lt_succ_self _) (by omega) (by omega) (rfl) hP hD hS (lv_sub hl [0, 1, 2, 3] rfl)

abbrev rmX5_lock : Room := { frames := 2, cells := 0, slots := 0, locals := 43 }
set_option maxHeartbeats 4000000 in
set_option maxRecDepth 100000 in
theorem m_lock_no (l : Launch) (G : va_G) (cB cI cZ : ClassId) (tc : Nat) (a : Nat → Nat) (ag ow ru hd kd tb md lv dr nb bg lr lb lh : Nat → Int32) (g : Nat) (t0 : Nat) (q : Nat) (x1 : Int32) (x2 : Int32) (x3 : Int32) (hg : g < 4000) (h : (mx_run g ru x1 && px_isR x2 && mx_in x3 1 2) = false) : KC l yX5_lock wsX5_lock rmX5_lock G [(cB, .byte), (cI, .int), (cZ, .boolean)] tc [.ref (a 0), .int x1, .int x2, .int x3] (wm a cB cI cZ ag (nI g) ow ru hd kd tb md lv dr nb bg (nI t0) (nI q) lr lb lh) (fun v w' => v = some (.int (-1)) ∧ w' = (wm a cB cI cZ ag (nI g) ow ru hd kd tb md lv dr nb bg (nI t0) (nI q) lr lb lh)) := by
  refine KC.of (cc := cX5_lock) (maxL := 10) (ret := some .int) (by decide) rfl (Nat.le_of_ble_eq_true rfl) ?_
  intro p e s m below meth c args A Q ls hx hb hml hown hts hK hZ hA hP hD hS hl hri hrv
  have hown : s.vm.findClass RX5 = some m.cls := hown
  have hl : lv_has ls 10 [(0, .ref (a 0)), (1, .int x1), (2, .int x2), (3, .int x3)] := hl
  have fl_13 := hts (.fieldLink RX5 13 "LockDeskModel" "owner" "[I") (by decide +kernel)
  have fl_23 := hts (.fieldLink RX5 23 "LockDeskModel" "kind" "[I") (by decide +kernel)
  have fl_44 := hts (.fieldLink RX5 44 "LockDeskModel" "lockRow" "[I") (by decide +kernel)
  have fl_47 := hts (.fieldLink RX5 47 "LockDeskModel" "lockBy" "[I") (by decide +kernel)
  have fl_50 := hts (.fieldLink RX5 50 "LockDeskModel" "lockHow" "[I") (by decide +kernel)
  have fl_93 := hts (.fieldLink RX5 93 "LockDeskModel" "locks" "I") (by decide +kernel)
  have hin5 : ∀ w ∈ wsX50, w ∈ wsX5_lock := by decide +kernel
  refine lv_aload_n hx hb dX5_lock_0 rfl (lv_at hl 0 rfl) ?_
  refine lv_iload_n hx hb dX5_lock_1 rfl (lv_at hl 1 rfl) ?_
  refine kV (As := [.int x1]) (rest := []) ⟨hx, hb, hml, hown, hts⟩ (c_X5_isRunning l G cB cI cZ tc a ag ow ru hd kd tb md lv dr nb bg lr lb lh g t0 q x1 hg) (cwV 1 hts gX5_lock_X5_isRunning rfl rfl rfl (by decide +kernel) ⟨by decide, by decide⟩) hK hZ hA hP hD hS 0 5 rfl rfl rfl hl.1 rfl (Nat.le_of_ble_eq_true rfl) dX5_lock_2 ⟨Nat.zero_le _, Nat.zero_le _⟩ (fun v w' H locs hp hP hD hS => ?_)
  obtain ⟨rfl, rfl⟩ := hp
  have hP : va_P G vwCl (wm a cB cI cZ ag (nI g) ow ru hd kd tb md lv dr nb bg (nI t0) (nI q) lr lb lh) H := hP
  have hD : va_D A (wm a cB cI cZ ag (nI g) ow ru hd kd tb md lv dr nb bg (nI t0) (nI q) lr lb lh) := hD
  refine W.eq (g2 := F0 m 5 ls [.int (fw_b (mx_run g ru x1))]) rfl ?_
  refine lv_if_eq (tgt := 42) hx hb dX5_lock_5 (by decide) (fun c_5 => ?_) (fun c_5 => ?_)
  · have c_5 := fw_b0.mp c_5
    refine lv_iconst (v := (-1)) hx hb dX5_lock_42 (by decide) ?_
    exact hri _ rfl (-1) _ _ _ _ _ (rfl) (⟨rfl, rfl⟩) hP hD hS dX5_lock_43
  · have c_5 := fw_b1.mp c_5
    refine lv_iload_n hx hb dX5_lock_8 rfl (lv_at hl 2 rfl) ?_
    refine lv_iconst (v := 0) hx hb dX5_lock_9 (by decide) ?_
    refine lv_sipush (v := 1199) hx hb dX5_lock_10 (by decide) ?_
    refine kS (As := [.int x2, .int 0, .int 1199]) (rest := []) ⟨hx, hb, hml, hown, hts⟩ (c_X5_in l G [(cB, .byte), (cI, .int), (cZ, .boolean)] tc (wm a cB cI cZ ag (nI g) ow ru hd kd tb md lv dr nb bg (nI t0) (nI q) lr lb lh) x2 0 1199) (va_cwS 3 hts gX5_lock_X5_in rfl rfl rfl (by decide +kernel) ⟨by decide, by decide⟩) hK hZ hA hP hD hS rfl hl.1 rfl (Nat.le_of_ble_eq_true rfl) dX5_lock_13 ⟨Nat.zero_le _, Nat.zero_le _⟩ (fun v w' H locs hp hP hD hS => ?_)
    obtain ⟨rfl, rfl⟩ := hp
    rw [mx_inR]
    have hP : va_P G vwCl (wm a cB cI cZ ag (nI g) ow ru hd kd tb md lv dr nb bg (nI t0) (nI q) lr lb lh) H := hP
    have hD : va_D A (wm a cB cI cZ ag (nI g) ow ru hd kd tb md lv dr nb bg (nI t0) (nI q) lr lb lh) := hD
    refine W.eq (g2 := F0 m 16 ls [.int (fw_b (px_isR x2))]) rfl ?_
    refine lv_if_eq (tgt := 42) hx hb dX5_lock_16 (by decide) (fun c_16 => ?_) (fun c_16 => ?_)
    · have c_16 := fw_b0.mp c_16
      refine lv_iconst (v := (-1)) hx hb dX5_lock_42 (by decide) ?_
      exact hri _ rfl (-1) _ _ _ _ _ (rfl) (⟨rfl, rfl⟩) hP hD hS dX5_lock_43
    · have c_16 := fw_b1.mp c_16
      refine lv_iload_n hx hb dX5_lock_19 rfl (lv_at hl 3 rfl) ?_
      refine lv_iconst (v := 1) hx hb dX5_lock_20 (by decide) ?_
      refine lv_iconst (v := 2) hx hb dX5_lock_21 (by decide) ?_
      refine kS (As := [.int x3, .int 1, .int 2]) (rest := []) ⟨hx, hb, hml, hown, hts⟩ (c_X5_in l G [(cB, .byte), (cI, .int), (cZ, .boolean)] tc (wm a cB cI cZ ag (nI g) ow ru hd kd tb md lv dr nb bg (nI t0) (nI q) lr lb lh) x3 1 2) (va_cwS 3 hts gX5_lock_X5_in rfl rfl rfl (by decide +kernel) ⟨by decide, by decide⟩) hK hZ hA hP hD hS rfl hl.1 rfl (Nat.le_of_ble_eq_true rfl) dX5_lock_22 ⟨Nat.zero_le _, Nat.zero_le _⟩ (fun v w' H locs hp hP hD hS => ?_)
      obtain ⟨rfl, rfl⟩ := hp
      have hP : va_P G vwCl (wm a cB cI cZ ag (nI g) ow ru hd kd tb md lv dr nb bg (nI t0) (nI q) lr lb lh) H := hP
      have hD : va_D A (wm a cB cI cZ ag (nI g) ow ru hd kd tb md lv dr nb bg (nI t0) (nI q) lr lb lh) := hD
      refine W.eq (g2 := F0 m 25 ls [.int (fw_b (mx_in x3 1 2))]) rfl ?_
      refine lv_if_eq (tgt := 42) hx hb dX5_lock_25 (by decide) (fun c_25 => ?_) (fun c_25 => False.elim (by have c_25 := fw_b1.mp c_25; simp [c_5, c_16, c_25] at h))
      have c_25 := fw_b0.mp c_25
      refine lv_iconst (v := (-1)) hx hb dX5_lock_42 (by decide) ?_
      exact hri _ rfl (-1) _ _ _ _ _ (rfl) (⟨rfl, rfl⟩) hP hD hS dX5_lock_43

set_option maxHeartbeats 4000000 in
set_option maxRecDepth 100000 in
theorem m_lock_ok (l : Launch) (G : va_G) (cB cI cZ : ClassId) (tc : Nat) (a : Nat → Nat) (ag ow ru hd kd tb md lv dr nb bg lr lb lh : Nat → Int32) (g : Nat) (t0 : Nat) (q : Nat) (k : Nat) (x2 : Int32) (x3 : Int32) (hq6 : q < 600) (hlb : ∀ i, i < q → ∃ k : Nat, k < 4001 ∧ lb i = nI k) (hk1 : 1 ≤ k) (hk2 : k ≤ g) (h : ¬ ru k = 0) (hrow : px_isR x2 = true) (hst : mx_in x3 1 2 = true) (hI : mx_I g t0 ag ow tb md lv dr nb bg) : KC l yX5_lock wsX5_lock rmX5_lock G [(cB, .byte), (cI, .int), (cZ, .boolean)] tc [.ref (a 0), .int (nI k), .int x2, .int x3] (wm a cB cI cZ ag (nI g) ow ru hd kd tb md lv dr nb bg (nI t0) (nI q) lr lb lh) (fun v w' => if ¬ kd (ow k).toNatClampNeg = 0 then v = some (.int (-1)) ∧ w' = (wm a cB cI cZ ag (nI g) ow ru hd kd tb md lv dr nb bg (nI t0) (nI q) lr lb lh) else ∃ (c : Nat) (lr1 lb1 lh1 : Nat → Int32) (lst : Int32) (bb : Bool) (mn : Int32), (c, lr1, lb1, lh1) = mx_sh ru q (lr, lb, lh) ∧ (lst, bb, mn) = fw_it (mx_lkW ow lr1 lb1 lh1 k x2 x3) c (0, false, -1) ∧ (if bb = true then v = some (.int 0) ∧ w' = (wm a cB cI cZ ag (nI g) ow ru hd kd tb md lv dr nb bg (nI t0) (nI c) lr1 lb1 lh1) else if 0 < lst then v = some (.int lst) ∧ w' = (wm a cB cI cZ ag (nI g) ow ru hd kd tb md lv dr nb bg (nI t0) (nI c) lr1 lb1 lh1) else v = some (.int 0) ∧ (if 0 ≤ mn then w' = (wm a cB cI cZ ag (nI g) ow ru hd kd tb md lv dr nb bg (nI t0) (nI c) lr1 lb1 (upd lh1 mn.toNatClampNeg x3)) else w' = (wm a cB cI cZ ag (nI g) ow ru hd kd tb md lv dr nb bg (nI t0) (nI (c + 1)) (upd lr1 c x2) (upd lb1 c (nI k)) (upd lh1 c x3))))) := by
  refine KC.of (cc := cX5_lock) (maxL := 10) (ret := some .int) (by decide) rfl (Nat.le_of_ble_eq_true rfl) ?_
  intro p e s m below meth c args A Q ls hx hb hml hown hts hK hZ hA hP hD hS hl hri hrv
  have hown : s.vm.findClass RX5 = some m.cls := hown
  have hl : lv_has ls 10 [(0, .ref (a 0)), (1, .int (nI k)), (2, .int x2), (3, .int x3)] := hl
  have fl_13 := hts (.fieldLink RX5 13 "LockDeskModel" "owner" "[I") (by decide +kernel)
  have fl_23 := hts (.fieldLink RX5 23 "LockDeskModel" "kind" "[I") (by decide +kernel)
  have fl_44 := hts (.fieldLink RX5 44 "LockDeskModel" "lockRow" "[I") (by decide +kernel)
  have fl_47 := hts (.fieldLink RX5 47 "LockDeskModel" "lockBy" "[I") (by decide +kernel)
  have fl_50 := hts (.fieldLink RX5 50 "LockDeskModel" "lockHow" "[I") (by decide +kernel)
  have fl_93 := hts (.fieldLink RX5 93 "LockDeskModel" "locks" "I") (by decide +kernel)
  have hin5 : ∀ w ∈ wsX50, w ∈ wsX5_lock := by decide +kernel
  have hI0 := hI
  obtain ⟨hg, ht0, hag, how, htb, hmd, hdr, hlv, hnb, hbg⟩ := hI
  refine lv_aload_n hx hb dX5_lock_0 rfl (lv_at hl 0 rfl) ?_
  refine lv_iload_n hx hb dX5_lock_1 rfl (lv_at hl 1 rfl) ?_
  refine kV (As := [.int (nI k)]) (rest := []) ⟨hx, hb, hml, hown, hts⟩ (c_X5_isRunning l G cB cI cZ tc a ag ow ru hd kd tb md lv dr nb bg lr lb lh g t0 q (nI k) hg) (cwV 1 hts gX5_lock_X5_isRunning rfl rfl rfl (by decide +kernel) ⟨by decide, by decide⟩) hK hZ hA hP hD hS 0 5 rfl rfl rfl hl.1 rfl (Nat.le_of_ble_eq_true rfl) dX5_lock_2 ⟨Nat.zero_le _, Nat.zero_le _⟩ (fun v w' H locs hp hP hD hS => ?_)
  obtain ⟨rfl, rfl⟩ := hp
  rw [mx_run_nI (by omega) hk1 hk2, decide_eq_false h]
  have hP : va_P G vwCl (wm a cB cI cZ ag (nI g) ow ru hd kd tb md lv dr nb bg (nI t0) (nI q) lr lb lh) H := hP
  have hD : va_D A (wm a cB cI cZ ag (nI g) ow ru hd kd tb md lv dr nb bg (nI t0) (nI q) lr lb lh) := hD
  refine W.eq (g2 := F0 m 5 ls [.int 1]) rfl ?_
  refine lv_if_eq (tgt := 42) hx hb dX5_lock_5 (by decide) (fun z9 => absurd z9 (by decide)) (fun _ => ?_)
  refine lv_iload_n hx hb dX5_lock_8 rfl (lv_at hl 2 rfl) ?_
  refine lv_iconst (v := 0) hx hb dX5_lock_9 (by decide) ?_
  refine lv_sipush (v := 1199) hx hb dX5_lock_10 (by decide) ?_
  refine kS (As := [.int x2, .int 0, .int 1199]) (rest := []) ⟨hx, hb, hml, hown, hts⟩ (c_X5_in l G [(cB, .byte), (cI, .int), (cZ, .boolean)] tc (wm a cB cI cZ ag (nI g) ow ru hd kd tb md lv dr nb bg (nI t0) (nI q) lr lb lh) x2 0 1199) (va_cwS 3 hts gX5_lock_X5_in rfl rfl rfl (by decide +kernel) ⟨by decide, by decide⟩) hK hZ hA hP hD hS rfl hl.1 rfl (Nat.le_of_ble_eq_true rfl) dX5_lock_13 ⟨Nat.zero_le _, Nat.zero_le _⟩ (fun v w' H locs hp hP hD hS => ?_)
  obtain ⟨rfl, rfl⟩ := hp
  rw [mx_inR]
  have hP : va_P G vwCl (wm a cB cI cZ ag (nI g) ow ru hd kd tb md lv dr nb bg (nI t0) (nI q) lr lb lh) H := hP
  have hD : va_D A (wm a cB cI cZ ag (nI g) ow ru hd kd tb md lv dr nb bg (nI t0) (nI q) lr lb lh) := hD
  refine W.eq (g2 := F0 m 16 ls [.int (fw_b (px_isR x2))]) rfl ?_
  refine lv_if_eq (tgt := 42) hx hb dX5_lock_16 (by decide) (fun c_16 => False.elim (by rw [hrow] at c_16; exact absurd c_16 (by decide))) (fun c_16 => ?_)
  have c_16 := fw_b1.mp c_16
  refine lv_iload_n hx hb dX5_lock_19 rfl (lv_at hl 3 rfl) ?_
  refine lv_iconst (v := 1) hx hb dX5_lock_20 (by decide) ?_
  refine lv_iconst (v := 2) hx hb dX5_lock_21 (by decide) ?_
  refine kS (As := [.int x3, .int 1, .int 2]) (rest := []) ⟨hx, hb, hml, hown, hts⟩ (c_X5_in l G [(cB, .byte), (cI, .int), (cZ, .boolean)] tc (wm a cB cI cZ ag (nI g) ow ru hd kd tb md lv dr nb bg (nI t0) (nI q) lr lb lh) x3 1 2) (va_cwS 3 hts gX5_lock_X5_in rfl rfl rfl (by decide +kernel) ⟨by decide, by decide⟩) hK hZ hA hP hD hS rfl hl.1 rfl (Nat.le_of_ble_eq_true rfl) dX5_lock_22 ⟨Nat.zero_le _, Nat.zero_le _⟩ (fun v w' H locs hp hP hD hS => ?_)
  obtain ⟨rfl, rfl⟩ := hp
  have hP : va_P G vwCl (wm a cB cI cZ ag (nI g) ow ru hd kd tb md lv dr nb bg (nI t0) (nI q) lr lb lh) H := hP
  have hD : va_D A (wm a cB cI cZ ag (nI g) ow ru hd kd tb md lv dr nb bg (nI t0) (nI q) lr lb lh) := hD
  refine W.eq (g2 := F0 m 25 ls [.int (fw_b (mx_in x3 1 2))]) rfl ?_
  refine lv_if_eq (tgt := 42) hx hb dX5_lock_25 (by decide) (fun c_25 => False.elim (by rw [hst] at c_25; exact absurd c_25 (by decide))) (fun c_25 => ?_)
  have c_25 := fw_b1.mp c_25
  refine lv_aload_n hx hb dX5_lock_28 rfl (lv_at hl 0 rfl) ?_
  refine va_get (D := G) (ci := 5) (v := .ref (a 5)) (C := RX5) (T := TX5) (N := 17) hx hb hts hin5 hown hK hP 0 rfl rfl 5 (by decide) fl_23 (fun _ h9 => h9) rfl dX5_lock_29 ?_
  refine lv_aload_n hx hb dX5_lock_32 rfl (lv_at hl 0 rfl) ?_
  refine va_get (D := G) (ci := 5) (v := .ref (a 2)) (C := RX5) (T := TX5) (N := 17) hx hb hts hin5 hown hK hP 0 rfl rfl 2 (by decide) fl_13 (fun _ h9 => h9) rfl dX5_lock_33 ?_
  refine lv_iload_n hx hb dX5_lock_36 rfl (lv_at hl 1 rfl) ?_
  refine fw_iald (j := k) (f := ow) hx hb hK hP 2 1 rfl rfl (by omega) (by decide) dX5_lock_37 ?_
  obtain ⟨j, hj6, ej⟩ := how k (by omega)
  have ejc : (ow k).toNatClampNeg = j := by rw [ej]; exact nI_clamp (by omega)
  rw [ej]
  refine fw_iald (j := j) (f := kd) hx hb hK hP 5 1 rfl rfl (by omega) (by decide) dX5_lock_38 ?_
  refine lv_if_eq (tgt := 44) hx hb dX5_lock_39 (by decide) (fun c_39 => ?_) (fun c_39 => ?_)
  · refine lv_aload_n hx hb dX5_lock_44 rfl (lv_at hl 0 rfl) ?_
    refine kV (As := []) (rest := []) ⟨hx, hb, hml, hown, hts⟩ (c_X5_shrink l G cB cI cZ tc a ag ow ru hd kd tb md lv dr nb bg lr lb lh g t0 q (by omega) hlb) (cwV 0 hts gX5_lock_X5_shrink rfl rfl rfl (by decide +kernel) ⟨by decide, by decide⟩) hK hZ hA hP hD hS 0 5 rfl rfl rfl hl.1 rfl (Nat.le_of_ble_eq_true rfl) dX5_lock_45 ⟨Nat.zero_le _, Nat.zero_le _⟩ (fun v w' H locs hp hP hD hS => ?_)
    obtain ⟨rfl, c1, lr1, lb1, lh1, hsh, rfl⟩ := hp
    have hinv := mx_sh_inv (ru := ru) (lr := lr) (lb := lb) (lh := lh) (Good := fun z => ∃ k : Nat, k < 4001 ∧ z = nI k) hlb
    rw [← hsh] at hinv
    obtain ⟨hc1, hlb1, -⟩ := hinv
    have hc1 : c1 ≤ q := hc1
    have hlb1 : ∀ i, i < c1 → ∃ k : Nat, k < 4001 ∧ lb1 i = nI k := hlb1
    have hP : va_P G vwCl (wm a cB cI cZ ag (nI g) ow ru hd kd tb md lv dr nb bg (nI t0) (nI c1) lr1 lb1 lh1) H := hP
    have hD : va_D A (wm a cB cI cZ ag (nI g) ow ru hd kd tb md lv dr nb bg (nI t0) (nI c1) lr1 lb1 lh1) := hD
    refine W.eq (g2 := F0 m 48 ls []) rfl ?_
    refine lv_iconst (v := 0) hx hb dX5_lock_48 (by decide) ?_
    refine lv_istore (lv' := [(4, .int 0), (0, .ref (a 0)), (1, .int (nI k)), (2, .int x2), (3, .int x3)]) hx hb dX5_lock_49 hl (by decide) rfl (fun ls hl => ?_)
    refine lv_iconst (v := 0) hx hb dX5_lock_51 (by decide) ?_
    refine lv_istore (lv' := [(5, .int 0), (4, .int 0), (0, .ref (a 0)), (1, .int (nI k)), (2, .int x2), (3, .int x3)]) hx hb dX5_lock_52 hl (by decide) rfl (fun ls hl => ?_)
    refine lv_iconst (v := (-1)) hx hb dX5_lock_54 (by decide) ?_
    refine lv_istore (lv' := [(6, .int (-1)), (5, .int 0), (4, .int 0), (0, .ref (a 0)), (1, .int (nI k)), (2, .int x2), (3, .int x3)]) hx hb dX5_lock_55 hl (by decide) rfl (fun ls hl => ?_)
    refine lv_iconst (v := 0) hx hb dX5_lock_57 (by decide) ?_
    refine lv_istore (lv' := [(7, .int 0), (6, .int (-1)), (5, .int 0), (4, .int 0), (0, .ref (a 0)), (1, .int (nI k)), (2, .int x2), (3, .int x3)]) hx hb dX5_lock_58 hl (by decide) rfl (fun ls hl => ?_)
    have lp_60 : ∀ (nf : Nat) (i : Nat) (lst : Int32) (bb : Bool) (mn : Int32) (H : Heap) (locs : List Loc) (ls : Array Slot), c1 - i < nf → (i ≤ c1) → (mn = -1 ∨ ∃ j : Nat, j < i ∧ mn = nI j) → ((lst, bb, mn) = fw_it (mx_lkW ow lr1 lb1 lh1 k x2 x3) i (0, false, -1)) → va_P G vwCl (wm a cB cI cZ ag (nI g) ow ru hd kd tb md lv dr nb bg (nI t0) (nI c1) lr1 lb1 lh1) H → va_D A (wm a cB cI cZ ag (nI g) ow ru hd kd tb md lv dr nb bg (nI t0) (nI c1) lr1 lb1 lh1) → va_S A s.heap H locs → lv_has ls 10 [(7, .int (nI i)), (6, .int mn), (5, .int (fw_b bb)), (4, .int lst), (0, .ref (a 0)), (1, .int (nI k)), (2, .int x2), (3, .int x3)] → W p l e rmX5_lock s m args below meth c H locs 0 0 Q (F0 m 60 ls []) := by
      intro nf
      induction nf with
      | zero => intro i lst bb mn H locs ls h0; exact absurd h0 (Nat.not_lt_zero _)
      | succ nf_60 ih_60 =>
        intro i lst bb mn H locs ls hn_60 hi hm hacc hP hD hS hl
        refine lv_iload hx hb dX5_lock_60 (lv_at hl 0 rfl) ?_
        refine lv_aload_n hx hb dX5_lock_62 rfl (lv_at hl 4 rfl) ?_
        refine va_get (D := G) (ci := 5) (v := .int (nI c1)) (C := RX5) (T := TX5) (N := 17) hx hb hts hin5 hown hK hP 0 rfl rfl 13 (by decide) fl_93 (fun _ h9 => h9) rfl dX5_lock_63 ?_
        refine lv_icmp_ge (tgt := 226) hx hb dX5_lock_66 (by decide) (fun c_66 => ?_) (fun c_66 => ?_)
        · have hE : i = c1 := by
            have := fw_nle c_66 (by omega) (by omega)
            omega
          subst i
          refine lv_iload hx hb dX5_lock_226 (lv_at hl 3 rfl) ?_
          refine lv_if_gt (tgt := 236) hx hb dX5_lock_228 (by decide) (fun c_228 => ?_) (fun c_228 => ?_)
          · refine lv_iload hx hb dX5_lock_236 (lv_at hl 2 rfl) ?_
            refine lv_if_eq (tgt := 245) hx hb dX5_lock_238 (by decide) (fun c_238 => ?_) (fun c_238 => ?_)
            · have c_238 := fw_b0.mp c_238
              refine lv_iload hx hb dX5_lock_245 (lv_at hl 3 rfl) ?_
              exact hri _ rfl lst _ _ _ _ _ (rfl) (by rw [ejc, if_neg (Decidable.not_not.mpr c_39)]; exact ⟨c1, lr1, lb1, lh1, lst, bb, mn, hsh, hacc, by rw [if_neg (show ¬ bb = true by rw [c_238]; decide), if_pos c_228]; exact ⟨rfl, rfl⟩⟩) hP hD hS dX5_lock_247
            · have c_238 := fw_b1.mp c_238
              refine lv_iconst (v := 0) hx hb dX5_lock_241 (by decide) ?_
              refine lv_goto (tgt := 247) hx hb dX5_lock_242 (by decide) ?_
              exact hri _ rfl 0 _ _ _ _ _ (rfl) (by rw [ejc, if_neg (Decidable.not_not.mpr c_39)]; exact ⟨c1, lr1, lb1, lh1, lst, bb, mn, hsh, hacc, by rw [if_pos c_238]; exact ⟨rfl, rfl⟩⟩) hP hD hS dX5_lock_247
          · refine lv_iload hx hb dX5_lock_231 (lv_at hl 2 rfl) ?_
            refine lv_if_eq (tgt := 248) hx hb dX5_lock_233 (by decide) (fun c_233 => ?_) (fun c_233 => ?_)
            · have c_233 := fw_b0.mp c_233
              refine lv_iload hx hb dX5_lock_248 (lv_at hl 1 rfl) ?_
              refine lv_if_ge (tgt := 285) hx hb dX5_lock_250 (by decide) (fun c_250 => ?_) (fun c_250 => ?_)
              · have hmj : ∃ j : Nat, j < c1 ∧ mn = nI j := hm.resolve_left (fun e => absurd c_250 (by rw [e]; decide))
                obtain ⟨j2, hj2, rfl⟩ := hmj
                have ej2 : (nI j2).toNatClampNeg = j2 := nI_clamp (by omega)
                refine lv_aload_n hx hb dX5_lock_285 rfl (lv_at hl 4 rfl) ?_
                refine va_get (D := G) (ci := 5) (v := .ref (a 14)) (C := RX5) (T := TX5) (N := 17) hx hb hts hin5 hown hK hP 0 rfl rfl 16 (by decide) fl_50 (fun _ h9 => h9) rfl dX5_lock_286 ?_
                refine lv_iload hx hb dX5_lock_289 (lv_at hl 1 rfl) ?_
                refine lv_iload_n hx hb dX5_lock_291 rfl (lv_at hl 7 rfl) ?_
                refine fw_iast (j := j2) (f := lh1) (x := x3) hx hb hK hP hD hS 14 1 rfl rfl (by omega) (by decide) dX5_lock_292 (fun H locs hP hD hS => ?_)
                have hP : va_P G vwCl (wm a cB cI cZ ag (nI g) ow ru hd kd tb md lv dr nb bg (nI t0) (nI c1) lr1 lb1 (upd lh1 j2 x3)) H := hP
                have hD : va_D A (wm a cB cI cZ ag (nI g) ow ru hd kd tb md lv dr nb bg (nI t0) (nI c1) lr1 lb1 (upd lh1 j2 x3)) := hD
                refine lv_iconst (v := 0) hx hb dX5_lock_293 (by decide) ?_
                exact hri _ rfl 0 _ _ _ _ _ (rfl) (by rw [ejc, if_neg (Decidable.not_not.mpr c_39)]; exact ⟨c1, lr1, lb1, lh1, lst, bb, nI j2, hsh, hacc, by rw [if_neg (show ¬ bb = true by rw [c_233]; decide), if_neg c_228]; exact ⟨rfl, by rw [if_pos c_250, ej2]⟩⟩) hP hD hS dX5_lock_294
              · refine lv_aload_n hx hb dX5_lock_253 rfl (lv_at hl 4 rfl) ?_
                refine va_get (D := G) (ci := 5) (v := .int (nI c1)) (C := RX5) (T := TX5) (N := 17) hx hb hts hin5 hown hK hP 0 rfl rfl 13 (by decide) fl_93 (fun _ h9 => h9) rfl dX5_lock_254 ?_
                refine lv_istore (lv' := [(6, .int (nI c1)), (7, .int (nI c1)), (5, .int (fw_b bb)), (4, .int lst), (0, .ref (a 0)), (1, .int (nI k)), (2, .int x2), (3, .int x3)]) hx hb dX5_lock_257 hl (by decide) rfl (fun ls hl => ?_)
                refine lv_aload_n hx hb dX5_lock_259 rfl (lv_at hl 4 rfl) ?_
                refine va_get (D := G) (ci := 5) (v := .ref (a 12)) (C := RX5) (T := TX5) (N := 17) hx hb hts hin5 hown hK hP 0 rfl rfl 14 (by decide) fl_44 (fun _ h9 => h9) rfl dX5_lock_260 ?_
                refine lv_iload hx hb dX5_lock_263 (lv_at hl 0 rfl) ?_
                refine lv_iload_n hx hb dX5_lock_265 rfl (lv_at hl 6 rfl) ?_
                refine fw_iast (j := c1) (f := lr1) (x := x2) hx hb hK hP hD hS 12 1 rfl rfl (by omega) (by decide) dX5_lock_266 (fun H locs hP hD hS => ?_)
                have hP : va_P G vwCl (wm a cB cI cZ ag (nI g) ow ru hd kd tb md lv dr nb bg (nI t0) (nI c1) (upd lr1 c1 x2) lb1 lh1) H := hP
                have hD : va_D A (wm a cB cI cZ ag (nI g) ow ru hd kd tb md lv dr nb bg (nI t0) (nI c1) (upd lr1 c1 x2) lb1 lh1) := hD
                refine lv_aload_n hx hb dX5_lock_267 rfl (lv_at hl 4 rfl) ?_
                refine va_get (D := G) (ci := 5) (v := .ref (a 13)) (C := RX5) (T := TX5) (N := 17) hx hb hts hin5 hown hK hP 0 rfl rfl 15 (by decide) fl_47 (fun _ h9 => h9) rfl dX5_lock_268 ?_
                refine lv_iload hx hb dX5_lock_271 (lv_at hl 0 rfl) ?_
                refine lv_iload_n hx hb dX5_lock_273 rfl (lv_at hl 5 rfl) ?_
                refine fw_iast (j := c1) (f := lb1) (x := nI k) hx hb hK hP hD hS 13 1 rfl rfl (by omega) (by decide) dX5_lock_274 (fun H locs hP hD hS => ?_)
                have hP : va_P G vwCl (wm a cB cI cZ ag (nI g) ow ru hd kd tb md lv dr nb bg (nI t0) (nI c1) (upd lr1 c1 x2) (upd lb1 c1 (nI k)) lh1) H := hP
                have hD : va_D A (wm a cB cI cZ ag (nI g) ow ru hd kd tb md lv dr nb bg (nI t0) (nI c1) (upd lr1 c1 x2) (upd lb1 c1 (nI k)) lh1) := hD
                refine lv_aload_n hx hb dX5_lock_275 rfl (lv_at hl 4 rfl) ?_
                refine lv_dup hx hb dX5_lock_276 rfl ?_
                refine va_get (D := G) (ci := 5) (v := .int (nI c1)) (C := RX5) (T := TX5) (N := 17) hx hb hts hin5 hown hK hP 0 rfl rfl 13 (by decide) fl_93 (fun _ h9 => h9) rfl dX5_lock_277 ?_
                refine lv_iconst (v := 1) hx hb dX5_lock_280 (by decide) ?_
                refine lv_iadd hx hb dX5_lock_281 ?_
                rw [nI_1 c1]
                refine va_put (D := G) (ci := 5) (v := .int (nI (c1 + 1))) (ty := .int) (C := RX5) (T := TX5) (N := 17) hx hb hts hin5 tyX5 tyX5_ok nmX5 hown hK hP hD hS 0 rfl rfl 13 (by decide) fl_93 (fun _ h9 => h9) rfl (by decide +kernel) rfl rfl (Nat.le_of_ble_eq_true rfl) dX5_lock_282 (fun H locs hP hD hS => ?_)
                have hP : va_P G vwCl (wm a cB cI cZ ag (nI g) ow ru hd kd tb md lv dr nb bg (nI t0) (nI (c1 + 1)) (upd lr1 c1 x2) (upd lb1 c1 (nI k)) lh1) H := hP
                have hD : va_D A (wm a cB cI cZ ag (nI g) ow ru hd kd tb md lv dr nb bg (nI t0) (nI (c1 + 1)) (upd lr1 c1 x2) (upd lb1 c1 (nI k)) lh1) := hD
                refine lv_aload_n hx hb dX5_lock_285 rfl (lv_at hl 4 rfl) ?_
                refine va_get (D := G) (ci := 5) (v := .ref (a 14)) (C := RX5) (T := TX5) (N := 17) hx hb hts hin5 hown hK hP 0 rfl rfl 16 (by decide) fl_50 (fun _ h9 => h9) rfl dX5_lock_286 ?_
                refine lv_iload hx hb dX5_lock_289 (lv_at hl 0 rfl) ?_
                refine lv_iload_n hx hb dX5_lock_291 rfl (lv_at hl 7 rfl) ?_
                refine fw_iast (j := c1) (f := lh1) (x := x3) hx hb hK hP hD hS 14 1 rfl rfl (by omega) (by decide) dX5_lock_292 (fun H locs hP hD hS => ?_)
                have hP : va_P G vwCl (wm a cB cI cZ ag (nI g) ow ru hd kd tb md lv dr nb bg (nI t0) (nI (c1 + 1)) (upd lr1 c1 x2) (upd lb1 c1 (nI k)) (upd lh1 c1 x3)) H := hP
                have hD : va_D A (wm a cB cI cZ ag (nI g) ow ru hd kd tb md lv dr nb bg (nI t0) (nI (c1 + 1)) (upd lr1 c1 x2) (upd lb1 c1 (nI k)) (upd lh1 c1 x3)) := hD
                refine lv_iconst (v := 0) hx hb dX5_lock_293 (by decide) ?_
                exact hri _ rfl 0 _ _ _ _ _ (rfl) (by rw [ejc, if_neg (Decidable.not_not.mpr c_39)]; exact ⟨c1, lr1, lb1, lh1, lst, bb, mn, hsh, hacc, by rw [if_neg (show ¬ bb = true by rw [c_233]; decide), if_neg c_228]; exact ⟨rfl, by rw [if_neg c_250]⟩⟩) hP hD hS dX5_lock_294
            · have c_233 := fw_b1.mp c_233
              refine lv_iload hx hb dX5_lock_236 (lv_at hl 2 rfl) ?_
              refine lv_if_eq (tgt := 245) hx hb dX5_lock_238 (by decide) (fun c_238 => False.elim (by rw [c_233] at c_238; exact absurd c_238 (by decide))) (fun c_238 => ?_)
              have c_238 := fw_b1.mp c_238
              refine lv_iconst (v := 0) hx hb dX5_lock_241 (by decide) ?_
              refine lv_goto (tgt := 247) hx hb dX5_lock_242 (by decide) ?_
              exact hri _ rfl 0 _ _ _ _ _ (rfl) (by rw [ejc, if_neg (Decidable.not_not.mpr c_39)]; exact ⟨c1, lr1, lb1, lh1, lst, bb, mn, hsh, hacc, by rw [if_pos c_238]; exact ⟨rfl, rfl⟩⟩) hP hD hS dX5_lock_247
        · have hL : i < c1 := by
            have := fw_nlt c_66 (by omega) (by omega)
            omega
          refine lv_aload_n hx hb dX5_lock_69 rfl (lv_at hl 4 rfl) ?_
          refine va_get (D := G) (ci := 5) (v := .ref (a 12)) (C := RX5) (T := TX5) (N := 17) hx hb hts hin5 hown hK hP 0 rfl rfl 14 (by decide) fl_44 (fun _ h9 => h9) rfl dX5_lock_70 ?_
          refine lv_iload hx hb dX5_lock_73 (lv_at hl 0 rfl) ?_
          refine fw_iald (j := i) (f := lr1) hx hb hK hP 12 1 rfl rfl (by omega) (by decide) dX5_lock_75 ?_
          refine lv_iload_n hx hb dX5_lock_76 rfl (lv_at hl 6 rfl) ?_
          refine lv_icmp_ne (tgt := 220) hx hb dX5_lock_77 (by decide) (fun c_77 => ?_) (fun c_77 => ?_)
          · refine lv_iinc (v := nI (i + 1)) (lv' := [(7, .int (nI (i + 1))), (6, .int mn), (5, .int (fw_b bb)), (4, .int lst), (0, .ref (a 0)), (1, .int (nI k)), (2, .int x2), (3, .int x3)]) hx hb dX5_lock_220 hl (k := 0) rfl (fw_inc _) (by decide) rfl (fun ls hl => ?_)
            refine lv_goto (tgt := 60) hx hb dX5_lock_223 (by decide) ?_
            exact ih_60 (i + 1) lst bb mn _ _ _ (by omega) (by omega) (hm.elim Or.inl (fun ⟨j, hj, e⟩ => Or.inr ⟨j, by omega, e⟩)) (by rw [fw_itS, ← hacc]; simp [mx_lkW, c_77]) hP hD hS (lv_sub hl [0, 1, 2, 3, 4, 5, 6, 7] rfl)
          · refine lv_aload_n hx hb dX5_lock_80 rfl (lv_at hl 4 rfl) ?_
            refine va_get (D := G) (ci := 5) (v := .ref (a 2)) (C := RX5) (T := TX5) (N := 17) hx hb hts hin5 hown hK hP 0 rfl rfl 2 (by decide) fl_13 (fun _ h9 => h9) rfl dX5_lock_81 ?_
            refine lv_aload_n hx hb dX5_lock_84 rfl (lv_at hl 4 rfl) ?_
            refine va_get (D := G) (ci := 5) (v := .ref (a 13)) (C := RX5) (T := TX5) (N := 17) hx hb hts hin5 hown hK hP 0 rfl rfl 15 (by decide) fl_47 (fun _ h9 => h9) rfl dX5_lock_85 ?_
            refine lv_iload hx hb dX5_lock_88 (lv_at hl 0 rfl) ?_
            refine fw_iald (j := i) (f := lb1) hx hb hK hP 13 1 rfl rfl (by omega) (by decide) dX5_lock_90 ?_
            obtain ⟨k2, hk24, ek2⟩ := hlb1 i hL
            rw [ek2]
            have ecl : (lb1 i).toNatClampNeg = k2 := by rw [ek2]; exact nI_clamp (by omega)
            refine fw_iald (j := k2) (f := ow) hx hb hK hP 2 1 rfl rfl (by omega) (by decide) dX5_lock_91 ?_
            refine lv_aload_n hx hb dX5_lock_92 rfl (lv_at hl 4 rfl) ?_
            refine va_get (D := G) (ci := 5) (v := .ref (a 2)) (C := RX5) (T := TX5) (N := 17) hx hb hts hin5 hown hK hP 0 rfl rfl 2 (by decide) fl_13 (fun _ h9 => h9) rfl dX5_lock_93 ?_
            refine lv_iload_n hx hb dX5_lock_96 rfl (lv_at hl 5 rfl) ?_
            refine fw_iald (j := k) (f := ow) hx hb hK hP 2 1 rfl rfl (by omega) (by decide) dX5_lock_97 ?_
            refine lv_icmp_ne (tgt := 105) hx hb dX5_lock_98 (by decide) (fun c_98 => ?_) (fun c_98 => ?_)
            · refine lv_iconst (v := 0) hx hb dX5_lock_105 (by decide) ?_
              refine lv_istore (lv' := [(8, .int 0), (7, .int (nI i)), (6, .int mn), (5, .int (fw_b bb)), (4, .int lst), (0, .ref (a 0)), (1, .int (nI k)), (2, .int x2), (3, .int x3)]) hx hb dX5_lock_106 hl (by decide) rfl (fun ls hl => ?_)
              refine lv_iload hx hb dX5_lock_108 (lv_at hl 0 rfl) ?_
              refine lv_if_ne (tgt := 133) hx hb dX5_lock_110 (by decide) (fun z9 => absurd z9 (by decide)) (fun _ => ?_)
              refine lv_iload_n hx hb dX5_lock_113 rfl (lv_at hl 8 rfl) ?_
              refine lv_iconst (v := 2) hx hb dX5_lock_114 (by decide) ?_
              refine lv_icmp_eq (tgt := 129) hx hb dX5_lock_115 (by decide) (fun c_115 => ?_) (fun c_115 => ?_)
              · refine lv_iconst (v := 1) hx hb dX5_lock_129 (by decide) ?_
                refine lv_goto (tgt := 134) hx hb dX5_lock_130 (by decide) ?_
                refine lv_istore (lv' := [(9, .int 1), (8, .int 0), (7, .int (nI i)), (6, .int mn), (5, .int (fw_b bb)), (4, .int lst), (0, .ref (a 0)), (1, .int (nI k)), (2, .int x2), (3, .int x3)]) hx hb dX5_lock_134 hl (by decide) rfl (fun ls hl => ?_)
                refine lv_iload hx hb dX5_lock_136 (lv_at hl 0 rfl) ?_
                refine lv_if_eq (tgt := 168) hx hb dX5_lock_138 (by decide) (fun z9 => absurd z9 (by decide)) (fun _ => ?_)
                refine lv_iload hx hb dX5_lock_141 (lv_at hl 5 rfl) ?_
                refine lv_if_eq (tgt := 158) hx hb dX5_lock_143 (by decide) (fun c_143 => ?_) (fun c_143 => ?_)
                · refine lv_aload_n hx hb dX5_lock_158 rfl (lv_at hl 6 rfl) ?_
                  refine va_get (D := G) (ci := 5) (v := .ref (a 13)) (C := RX5) (T := TX5) (N := 17) hx hb hts hin5 hown hK hP 0 rfl rfl 15 (by decide) fl_47 (fun _ h9 => h9) rfl dX5_lock_159 ?_
                  refine lv_iload hx hb dX5_lock_162 (lv_at hl 2 rfl) ?_
                  refine fw_iald (j := i) (f := lb1) hx hb hK hP 13 1 rfl rfl (by omega) (by decide) dX5_lock_164 ?_
                  refine lv_goto (tgt := 170) hx hb dX5_lock_165 (by decide) ?_
                  refine lv_istore (lv' := [(4, .int (lb1 i)), (9, .int 1), (8, .int 0), (7, .int (nI i)), (6, .int mn), (5, .int (fw_b bb)), (0, .ref (a 0)), (1, .int (nI k)), (2, .int x2), (3, .int x3)]) hx hb dX5_lock_170 hl (by decide) rfl (fun ls hl => ?_)
                  refine lv_iload hx hb dX5_lock_172 (lv_at hl 5 rfl) ?_
                  refine lv_if_ne (tgt := 193) hx hb dX5_lock_174 (by decide) (fun c_174 => ?_) (fun c_174 => ?_)
                  · have c_174 := fw_b1.mp c_174
                    refine lv_iconst (v := 1) hx hb dX5_lock_193 (by decide) ?_
                    refine lv_goto (tgt := 198) hx hb dX5_lock_194 (by decide) ?_
                    refine lv_istore (lv' := [(5, .int 1), (4, .int (lb1 i)), (9, .int 1), (8, .int 0), (7, .int (nI i)), (6, .int mn), (0, .ref (a 0)), (1, .int (nI k)), (2, .int x2), (3, .int x3)]) hx hb dX5_lock_198 hl (by decide) rfl (fun ls hl => ?_)
                    refine lv_aload_n hx hb dX5_lock_200 rfl (lv_at hl 6 rfl) ?_
                    refine va_get (D := G) (ci := 5) (v := .ref (a 13)) (C := RX5) (T := TX5) (N := 17) hx hb hts hin5 hown hK hP 0 rfl rfl 15 (by decide) fl_47 (fun _ h9 => h9) rfl dX5_lock_201 ?_
                    refine lv_iload hx hb dX5_lock_204 (lv_at hl 4 rfl) ?_
                    refine fw_iald (j := i) (f := lb1) hx hb hK hP 13 1 rfl rfl (by omega) (by decide) dX5_lock_206 ?_
                    refine lv_iload_n hx hb dX5_lock_207 rfl (lv_at hl 7 rfl) ?_
                    refine lv_icmp_ne (tgt := 216) hx hb dX5_lock_208 (by decide) (fun c_208 => ?_) (fun c_208 => ?_)
                    · refine lv_iload hx hb dX5_lock_216 (lv_at hl 5 rfl) ?_
                      refine lv_istore (lv' := [(6, .int mn), (5, .int 1), (4, .int (lb1 i)), (9, .int 1), (8, .int 0), (7, .int (nI i)), (0, .ref (a 0)), (1, .int (nI k)), (2, .int x2), (3, .int x3)]) hx hb dX5_lock_218 hl (by decide) rfl (fun ls hl => ?_)
                      refine lv_iinc (v := nI (i + 1)) (lv' := [(7, .int (nI (i + 1))), (6, .int mn), (5, .int 1), (4, .int (lb1 i)), (9, .int 1), (8, .int 0), (0, .ref (a 0)), (1, .int (nI k)), (2, .int x2), (3, .int x3)]) hx hb dX5_lock_220 hl (k := 5) rfl (fw_inc _) (by decide) rfl (fun ls hl => ?_)
                      refine lv_goto (tgt := 60) hx hb dX5_lock_223 (by decide) ?_
                      exact ih_60 (i + 1) (lb1 i) true mn _ _ _ (by omega) (by omega) (hm.elim Or.inl (fun ⟨j, hj, e⟩ => Or.inr ⟨j, by omega, e⟩)) (by rw [fw_itS, ← hacc]; simp [mx_lkW, ecl, eq_true c_77, c_98, eq_true c_115, eq_true c_143, c_174, c_208]) hP hD hS (lv_sub hl [0, 1, 2, 3, 6, 7, 8, 9] rfl)
                    · refine lv_iload hx hb dX5_lock_211 (lv_at hl 4 rfl) ?_
                      refine lv_goto (tgt := 218) hx hb dX5_lock_213 (by decide) ?_
                      refine lv_istore (lv' := [(6, .int (nI i)), (5, .int 1), (4, .int (lb1 i)), (9, .int 1), (8, .int 0), (7, .int (nI i)), (0, .ref (a 0)), (1, .int (nI k)), (2, .int x2), (3, .int x3)]) hx hb dX5_lock_218 hl (by decide) rfl (fun ls hl => ?_)
                      refine lv_iinc (v := nI (i + 1)) (lv' := [(7, .int (nI (i + 1))), (6, .int (nI i)), (5, .int 1), (4, .int (lb1 i)), (9, .int 1), (8, .int 0), (0, .ref (a 0)), (1, .int (nI k)), (2, .int x2), (3, .int x3)]) hx hb dX5_lock_220 hl (k := 5) rfl (fw_inc _) (by decide) rfl (fun ls hl => ?_)
                      refine lv_goto (tgt := 60) hx hb dX5_lock_223 (by decide) ?_
                      exact ih_60 (i + 1) (lb1 i) true (nI i) _ _ _ (by omega) (by omega) (Or.inr ⟨i, by omega, rfl⟩) (by rw [fw_itS, ← hacc]; simp [mx_lkW, ecl, eq_true c_77, c_98, eq_true c_115, eq_true c_143, c_174, eq_true c_208]) hP hD hS (lv_sub hl [0, 1, 2, 3, 6, 7, 8, 9] rfl)
                  · have c_174 := fw_b0.mp c_174
                    refine lv_iload hx hb dX5_lock_177 (lv_at hl 2 rfl) ?_
                    refine lv_if_eq (tgt := 197) hx hb dX5_lock_179 (by decide) (fun _ => ?_) (fun z9 => absurd z9 (by decide))
                    refine lv_iconst (v := 0) hx hb dX5_lock_197 (by decide) ?_
                    refine lv_istore (lv' := [(5, .int 0), (4, .int (lb1 i)), (9, .int 1), (8, .int 0), (7, .int (nI i)), (6, .int mn), (0, .ref (a 0)), (1, .int (nI k)), (2, .int x2), (3, .int x3)]) hx hb dX5_lock_198 hl (by decide) rfl (fun ls hl => ?_)
                    refine lv_aload_n hx hb dX5_lock_200 rfl (lv_at hl 6 rfl) ?_
                    refine va_get (D := G) (ci := 5) (v := .ref (a 13)) (C := RX5) (T := TX5) (N := 17) hx hb hts hin5 hown hK hP 0 rfl rfl 15 (by decide) fl_47 (fun _ h9 => h9) rfl dX5_lock_201 ?_
                    refine lv_iload hx hb dX5_lock_204 (lv_at hl 4 rfl) ?_
                    refine fw_iald (j := i) (f := lb1) hx hb hK hP 13 1 rfl rfl (by omega) (by decide) dX5_lock_206 ?_
                    refine lv_iload_n hx hb dX5_lock_207 rfl (lv_at hl 7 rfl) ?_
                    refine lv_icmp_ne (tgt := 216) hx hb dX5_lock_208 (by decide) (fun c_208 => ?_) (fun c_208 => ?_)
                    · refine lv_iload hx hb dX5_lock_216 (lv_at hl 5 rfl) ?_
                      refine lv_istore (lv' := [(6, .int mn), (5, .int 0), (4, .int (lb1 i)), (9, .int 1), (8, .int 0), (7, .int (nI i)), (0, .ref (a 0)), (1, .int (nI k)), (2, .int x2), (3, .int x3)]) hx hb dX5_lock_218 hl (by decide) rfl (fun ls hl => ?_)
                      refine lv_iinc (v := nI (i + 1)) (lv' := [(7, .int (nI (i + 1))), (6, .int mn), (5, .int 0), (4, .int (lb1 i)), (9, .int 1), (8, .int 0), (0, .ref (a 0)), (1, .int (nI k)), (2, .int x2), (3, .int x3)]) hx hb dX5_lock_220 hl (k := 5) rfl (fw_inc _) (by decide) rfl (fun ls hl => ?_)
                      refine lv_goto (tgt := 60) hx hb dX5_lock_223 (by decide) ?_
                      exact ih_60 (i + 1) (lb1 i) false mn _ _ _ (by omega) (by omega) (hm.elim Or.inl (fun ⟨j, hj, e⟩ => Or.inr ⟨j, by omega, e⟩)) (by rw [fw_itS, ← hacc]; simp [mx_lkW, ecl, eq_true c_77, c_98, eq_true c_115, eq_true c_143, c_174, c_208]) hP hD hS (lv_sub hl [0, 1, 2, 3, 6, 7, 8, 9] rfl)
                    · refine lv_iload hx hb dX5_lock_211 (lv_at hl 4 rfl) ?_
                      refine lv_goto (tgt := 218) hx hb dX5_lock_213 (by decide) ?_
                      refine lv_istore (lv' := [(6, .int (nI i)), (5, .int 0), (4, .int (lb1 i)), (9, .int 1), (8, .int 0), (7, .int (nI i)), (0, .ref (a 0)), (1, .int (nI k)), (2, .int x2), (3, .int x3)]) hx hb dX5_lock_218 hl (by decide) rfl (fun ls hl => ?_)
                      refine lv_iinc (v := nI (i + 1)) (lv' := [(7, .int (nI (i + 1))), (6, .int (nI i)), (5, .int 0), (4, .int (lb1 i)), (9, .int 1), (8, .int 0), (0, .ref (a 0)), (1, .int (nI k)), (2, .int x2), (3, .int x3)]) hx hb dX5_lock_220 hl (k := 5) rfl (fw_inc _) (by decide) rfl (fun ls hl => ?_)
                      refine lv_goto (tgt := 60) hx hb dX5_lock_223 (by decide) ?_
                      exact ih_60 (i + 1) (lb1 i) false (nI i) _ _ _ (by omega) (by omega) (Or.inr ⟨i, by omega, rfl⟩) (by rw [fw_itS, ← hacc]; simp [mx_lkW, ecl, eq_true c_77, c_98, eq_true c_115, eq_true c_143, c_174, eq_true c_208]) hP hD hS (lv_sub hl [0, 1, 2, 3, 6, 7, 8, 9] rfl)
                · refine lv_aload_n hx hb dX5_lock_146 rfl (lv_at hl 6 rfl) ?_
                  refine va_get (D := G) (ci := 5) (v := .ref (a 13)) (C := RX5) (T := TX5) (N := 17) hx hb hts hin5 hown hK hP 0 rfl rfl 15 (by decide) fl_47 (fun _ h9 => h9) rfl dX5_lock_147 ?_
                  refine lv_iload hx hb dX5_lock_150 (lv_at hl 2 rfl) ?_
                  refine fw_iald (j := i) (f := lb1) hx hb hK hP 13 1 rfl rfl (by omega) (by decide) dX5_lock_152 ?_
                  refine lv_iload hx hb dX5_lock_153 (lv_at hl 5 rfl) ?_
                  refine lv_icmp_ge (tgt := 168) hx hb dX5_lock_155 (by decide) (fun c_155 => ?_) (fun c_155 => ?_)
                  · refine lv_iload hx hb dX5_lock_168 (lv_at hl 5 rfl) ?_
                    refine lv_istore (lv' := [(4, .int lst), (9, .int 1), (8, .int 0), (7, .int (nI i)), (6, .int mn), (5, .int (fw_b bb)), (0, .ref (a 0)), (1, .int (nI k)), (2, .int x2), (3, .int x3)]) hx hb dX5_lock_170 hl (by decide) rfl (fun ls hl => ?_)
                    refine lv_iload hx hb dX5_lock_172 (lv_at hl 5 rfl) ?_
                    refine lv_if_ne (tgt := 193) hx hb dX5_lock_174 (by decide) (fun c_174 => ?_) (fun c_174 => ?_)
                    · have c_174 := fw_b1.mp c_174
                      refine lv_iconst (v := 1) hx hb dX5_lock_193 (by decide) ?_
                      refine lv_goto (tgt := 198) hx hb dX5_lock_194 (by decide) ?_
                      refine lv_istore (lv' := [(5, .int 1), (4, .int lst), (9, .int 1), (8, .int 0), (7, .int (nI i)), (6, .int mn), (0, .ref (a 0)), (1, .int (nI k)), (2, .int x2), (3, .int x3)]) hx hb dX5_lock_198 hl (by decide) rfl (fun ls hl => ?_)
                      refine lv_aload_n hx hb dX5_lock_200 rfl (lv_at hl 6 rfl) ?_
                      refine va_get (D := G) (ci := 5) (v := .ref (a 13)) (C := RX5) (T := TX5) (N := 17) hx hb hts hin5 hown hK hP 0 rfl rfl 15 (by decide) fl_47 (fun _ h9 => h9) rfl dX5_lock_201 ?_
                      refine lv_iload hx hb dX5_lock_204 (lv_at hl 4 rfl) ?_
                      refine fw_iald (j := i) (f := lb1) hx hb hK hP 13 1 rfl rfl (by omega) (by decide) dX5_lock_206 ?_
                      refine lv_iload_n hx hb dX5_lock_207 rfl (lv_at hl 7 rfl) ?_
                      refine lv_icmp_ne (tgt := 216) hx hb dX5_lock_208 (by decide) (fun c_208 => ?_) (fun c_208 => ?_)
                      · refine lv_iload hx hb dX5_lock_216 (lv_at hl 5 rfl) ?_
                        refine lv_istore (lv' := [(6, .int mn), (5, .int 1), (4, .int lst), (9, .int 1), (8, .int 0), (7, .int (nI i)), (0, .ref (a 0)), (1, .int (nI k)), (2, .int x2), (3, .int x3)]) hx hb dX5_lock_218 hl (by decide) rfl (fun ls hl => ?_)
                        refine lv_iinc (v := nI (i + 1)) (lv' := [(7, .int (nI (i + 1))), (6, .int mn), (5, .int 1), (4, .int lst), (9, .int 1), (8, .int 0), (0, .ref (a 0)), (1, .int (nI k)), (2, .int x2), (3, .int x3)]) hx hb dX5_lock_220 hl (k := 5) rfl (fw_inc _) (by decide) rfl (fun ls hl => ?_)
                        refine lv_goto (tgt := 60) hx hb dX5_lock_223 (by decide) ?_
                        exact ih_60 (i + 1) lst true mn _ _ _ (by omega) (by omega) (hm.elim Or.inl (fun ⟨j, hj, e⟩ => Or.inr ⟨j, by omega, e⟩)) (by rw [fw_itS, ← hacc]; simp [mx_lkW, ecl, eq_true c_77, c_98, eq_true c_115, c_143, c_155, c_174, c_208]) hP hD hS (lv_sub hl [0, 1, 2, 3, 6, 7, 8, 9] rfl)
                      · refine lv_iload hx hb dX5_lock_211 (lv_at hl 4 rfl) ?_
                        refine lv_goto (tgt := 218) hx hb dX5_lock_213 (by decide) ?_
                        refine lv_istore (lv' := [(6, .int (nI i)), (5, .int 1), (4, .int lst), (9, .int 1), (8, .int 0), (7, .int (nI i)), (0, .ref (a 0)), (1, .int (nI k)), (2, .int x2), (3, .int x3)]) hx hb dX5_lock_218 hl (by decide) rfl (fun ls hl => ?_)
                        refine lv_iinc (v := nI (i + 1)) (lv' := [(7, .int (nI (i + 1))), (6, .int (nI i)), (5, .int 1), (4, .int lst), (9, .int 1), (8, .int 0), (0, .ref (a 0)), (1, .int (nI k)), (2, .int x2), (3, .int x3)]) hx hb dX5_lock_220 hl (k := 5) rfl (fw_inc _) (by decide) rfl (fun ls hl => ?_)
                        refine lv_goto (tgt := 60) hx hb dX5_lock_223 (by decide) ?_
                        exact ih_60 (i + 1) lst true (nI i) _ _ _ (by omega) (by omega) (Or.inr ⟨i, by omega, rfl⟩) (by rw [fw_itS, ← hacc]; simp [mx_lkW, ecl, eq_true c_77, c_98, eq_true c_115, c_143, c_155, c_174, eq_true c_208]) hP hD hS (lv_sub hl [0, 1, 2, 3, 6, 7, 8, 9] rfl)
                    · have c_174 := fw_b0.mp c_174
                      refine lv_iload hx hb dX5_lock_177 (lv_at hl 2 rfl) ?_
                      refine lv_if_eq (tgt := 197) hx hb dX5_lock_179 (by decide) (fun _ => ?_) (fun z9 => absurd z9 (by decide))
                      refine lv_iconst (v := 0) hx hb dX5_lock_197 (by decide) ?_
                      refine lv_istore (lv' := [(5, .int 0), (4, .int lst), (9, .int 1), (8, .int 0), (7, .int (nI i)), (6, .int mn), (0, .ref (a 0)), (1, .int (nI k)), (2, .int x2), (3, .int x3)]) hx hb dX5_lock_198 hl (by decide) rfl (fun ls hl => ?_)
                      refine lv_aload_n hx hb dX5_lock_200 rfl (lv_at hl 6 rfl) ?_
                      refine va_get (D := G) (ci := 5) (v := .ref (a 13)) (C := RX5) (T := TX5) (N := 17) hx hb hts hin5 hown hK hP 0 rfl rfl 15 (by decide) fl_47 (fun _ h9 => h9) rfl dX5_lock_201 ?_
                      refine lv_iload hx hb dX5_lock_204 (lv_at hl 4 rfl) ?_
                      refine fw_iald (j := i) (f := lb1) hx hb hK hP 13 1 rfl rfl (by omega) (by decide) dX5_lock_206 ?_
                      refine lv_iload_n hx hb dX5_lock_207 rfl (lv_at hl 7 rfl) ?_
                      refine lv_icmp_ne (tgt := 216) hx hb dX5_lock_208 (by decide) (fun c_208 => ?_) (fun c_208 => ?_)
                      · refine lv_iload hx hb dX5_lock_216 (lv_at hl 5 rfl) ?_
                        refine lv_istore (lv' := [(6, .int mn), (5, .int 0), (4, .int lst), (9, .int 1), (8, .int 0), (7, .int (nI i)), (0, .ref (a 0)), (1, .int (nI k)), (2, .int x2), (3, .int x3)]) hx hb dX5_lock_218 hl (by decide) rfl (fun ls hl => ?_)
                        refine lv_iinc (v := nI (i + 1)) (lv' := [(7, .int (nI (i + 1))), (6, .int mn), (5, .int 0), (4, .int lst), (9, .int 1), (8, .int 0), (0, .ref (a 0)), (1, .int (nI k)), (2, .int x2), (3, .int x3)]) hx hb dX5_lock_220 hl (k := 5) rfl (fw_inc _) (by decide) rfl (fun ls hl => ?_)
                        refine lv_goto (tgt := 60) hx hb dX5_lock_223 (by decide) ?_
                        exact ih_60 (i + 1) lst false mn _ _ _ (by omega) (by omega) (hm.elim Or.inl (fun ⟨j, hj, e⟩ => Or.inr ⟨j, by omega, e⟩)) (by rw [fw_itS, ← hacc]; simp [mx_lkW, ecl, eq_true c_77, c_98, eq_true c_115, c_143, c_155, c_174, c_208]) hP hD hS (lv_sub hl [0, 1, 2, 3, 6, 7, 8, 9] rfl)
                      · refine lv_iload hx hb dX5_lock_211 (lv_at hl 4 rfl) ?_
                        refine lv_goto (tgt := 218) hx hb dX5_lock_213 (by decide) ?_
                        refine lv_istore (lv' := [(6, .int (nI i)), (5, .int 0), (4, .int lst), (9, .int 1), (8, .int 0), (7, .int (nI i)), (0, .ref (a 0)), (1, .int (nI k)), (2, .int x2), (3, .int x3)]) hx hb dX5_lock_218 hl (by decide) rfl (fun ls hl => ?_)
                        refine lv_iinc (v := nI (i + 1)) (lv' := [(7, .int (nI (i + 1))), (6, .int (nI i)), (5, .int 0), (4, .int lst), (9, .int 1), (8, .int 0), (0, .ref (a 0)), (1, .int (nI k)), (2, .int x2), (3, .int x3)]) hx hb dX5_lock_220 hl (k := 5) rfl (fw_inc _) (by decide) rfl (fun ls hl => ?_)
                        refine lv_goto (tgt := 60) hx hb dX5_lock_223 (by decide) ?_
                        exact ih_60 (i + 1) lst false (nI i) _ _ _ (by omega) (by omega) (Or.inr ⟨i, by omega, rfl⟩) (by rw [fw_itS, ← hacc]; simp [mx_lkW, ecl, eq_true c_77, c_98, eq_true c_115, c_143, c_155, c_174, eq_true c_208]) hP hD hS (lv_sub hl [0, 1, 2, 3, 6, 7, 8, 9] rfl)
                  · refine lv_aload_n hx hb dX5_lock_158 rfl (lv_at hl 6 rfl) ?_
                    refine va_get (D := G) (ci := 5) (v := .ref (a 13)) (C := RX5) (T := TX5) (N := 17) hx hb hts hin5 hown hK hP 0 rfl rfl 15 (by decide) fl_47 (fun _ h9 => h9) rfl dX5_lock_159 ?_
                    refine lv_iload hx hb dX5_lock_162 (lv_at hl 2 rfl) ?_
                    refine fw_iald (j := i) (f := lb1) hx hb hK hP 13 1 rfl rfl (by omega) (by decide) dX5_lock_164 ?_
                    refine lv_goto (tgt := 170) hx hb dX5_lock_165 (by decide) ?_
                    refine lv_istore (lv' := [(4, .int (lb1 i)), (9, .int 1), (8, .int 0), (7, .int (nI i)), (6, .int mn), (5, .int (fw_b bb)), (0, .ref (a 0)), (1, .int (nI k)), (2, .int x2), (3, .int x3)]) hx hb dX5_lock_170 hl (by decide) rfl (fun ls hl => ?_)
                    refine lv_iload hx hb dX5_lock_172 (lv_at hl 5 rfl) ?_
                    refine lv_if_ne (tgt := 193) hx hb dX5_lock_174 (by decide) (fun c_174 => ?_) (fun c_174 => ?_)
                    · have c_174 := fw_b1.mp c_174
                      refine lv_iconst (v := 1) hx hb dX5_lock_193 (by decide) ?_
                      refine lv_goto (tgt := 198) hx hb dX5_lock_194 (by decide) ?_
                      refine lv_istore (lv' := [(5, .int 1), (4, .int (lb1 i)), (9, .int 1), (8, .int 0), (7, .int (nI i)), (6, .int mn), (0, .ref (a 0)), (1, .int (nI k)), (2, .int x2), (3, .int x3)]) hx hb dX5_lock_198 hl (by decide) rfl (fun ls hl => ?_)
                      refine lv_aload_n hx hb dX5_lock_200 rfl (lv_at hl 6 rfl) ?_
                      refine va_get (D := G) (ci := 5) (v := .ref (a 13)) (C := RX5) (T := TX5) (N := 17) hx hb hts hin5 hown hK hP 0 rfl rfl 15 (by decide) fl_47 (fun _ h9 => h9) rfl dX5_lock_201 ?_
                      refine lv_iload hx hb dX5_lock_204 (lv_at hl 4 rfl) ?_
                      refine fw_iald (j := i) (f := lb1) hx hb hK hP 13 1 rfl rfl (by omega) (by decide) dX5_lock_206 ?_
                      refine lv_iload_n hx hb dX5_lock_207 rfl (lv_at hl 7 rfl) ?_
                      refine lv_icmp_ne (tgt := 216) hx hb dX5_lock_208 (by decide) (fun c_208 => ?_) (fun c_208 => ?_)
                      · refine lv_iload hx hb dX5_lock_216 (lv_at hl 5 rfl) ?_
                        refine lv_istore (lv' := [(6, .int mn), (5, .int 1), (4, .int (lb1 i)), (9, .int 1), (8, .int 0), (7, .int (nI i)), (0, .ref (a 0)), (1, .int (nI k)), (2, .int x2), (3, .int x3)]) hx hb dX5_lock_218 hl (by decide) rfl (fun ls hl => ?_)
                        refine lv_iinc (v := nI (i + 1)) (lv' := [(7, .int (nI (i + 1))), (6, .int mn), (5, .int 1), (4, .int (lb1 i)), (9, .int 1), (8, .int 0), (0, .ref (a 0)), (1, .int (nI k)), (2, .int x2), (3, .int x3)]) hx hb dX5_lock_220 hl (k := 5) rfl (fw_inc _) (by decide) rfl (fun ls hl => ?_)
                        refine lv_goto (tgt := 60) hx hb dX5_lock_223 (by decide) ?_
                        exact ih_60 (i + 1) (lb1 i) true mn _ _ _ (by omega) (by omega) (hm.elim Or.inl (fun ⟨j, hj, e⟩ => Or.inr ⟨j, by omega, e⟩)) (by rw [fw_itS, ← hacc]; simp [mx_lkW, ecl, eq_true c_77, c_98, eq_true c_115, c_143, c_155, c_174, c_208]) hP hD hS (lv_sub hl [0, 1, 2, 3, 6, 7, 8, 9] rfl)
                      · refine lv_iload hx hb dX5_lock_211 (lv_at hl 4 rfl) ?_
                        refine lv_goto (tgt := 218) hx hb dX5_lock_213 (by decide) ?_
                        refine lv_istore (lv' := [(6, .int (nI i)), (5, .int 1), (4, .int (lb1 i)), (9, .int 1), (8, .int 0), (7, .int (nI i)), (0, .ref (a 0)), (1, .int (nI k)), (2, .int x2), (3, .int x3)]) hx hb dX5_lock_218 hl (by decide) rfl (fun ls hl => ?_)
                        refine lv_iinc (v := nI (i + 1)) (lv' := [(7, .int (nI (i + 1))), (6, .int (nI i)), (5, .int 1), (4, .int (lb1 i)), (9, .int 1), (8, .int 0), (0, .ref (a 0)), (1, .int (nI k)), (2, .int x2), (3, .int x3)]) hx hb dX5_lock_220 hl (k := 5) rfl (fw_inc _) (by decide) rfl (fun ls hl => ?_)
                        refine lv_goto (tgt := 60) hx hb dX5_lock_223 (by decide) ?_
                        exact ih_60 (i + 1) (lb1 i) true (nI i) _ _ _ (by omega) (by omega) (Or.inr ⟨i, by omega, rfl⟩) (by rw [fw_itS, ← hacc]; simp [mx_lkW, ecl, eq_true c_77, c_98, eq_true c_115, c_143, c_155, c_174, eq_true c_208]) hP hD hS (lv_sub hl [0, 1, 2, 3, 6, 7, 8, 9] rfl)
                    · have c_174 := fw_b0.mp c_174
                      refine lv_iload hx hb dX5_lock_177 (lv_at hl 2 rfl) ?_
                      refine lv_if_eq (tgt := 197) hx hb dX5_lock_179 (by decide) (fun _ => ?_) (fun z9 => absurd z9 (by decide))
                      refine lv_iconst (v := 0) hx hb dX5_lock_197 (by decide) ?_
                      refine lv_istore (lv' := [(5, .int 0), (4, .int (lb1 i)), (9, .int 1), (8, .int 0), (7, .int (nI i)), (6, .int mn), (0, .ref (a 0)), (1, .int (nI k)), (2, .int x2), (3, .int x3)]) hx hb dX5_lock_198 hl (by decide) rfl (fun ls hl => ?_)
                      refine lv_aload_n hx hb dX5_lock_200 rfl (lv_at hl 6 rfl) ?_
                      refine va_get (D := G) (ci := 5) (v := .ref (a 13)) (C := RX5) (T := TX5) (N := 17) hx hb hts hin5 hown hK hP 0 rfl rfl 15 (by decide) fl_47 (fun _ h9 => h9) rfl dX5_lock_201 ?_
                      refine lv_iload hx hb dX5_lock_204 (lv_at hl 4 rfl) ?_
                      refine fw_iald (j := i) (f := lb1) hx hb hK hP 13 1 rfl rfl (by omega) (by decide) dX5_lock_206 ?_
                      refine lv_iload_n hx hb dX5_lock_207 rfl (lv_at hl 7 rfl) ?_
                      refine lv_icmp_ne (tgt := 216) hx hb dX5_lock_208 (by decide) (fun c_208 => ?_) (fun c_208 => ?_)
                      · refine lv_iload hx hb dX5_lock_216 (lv_at hl 5 rfl) ?_
                        refine lv_istore (lv' := [(6, .int mn), (5, .int 0), (4, .int (lb1 i)), (9, .int 1), (8, .int 0), (7, .int (nI i)), (0, .ref (a 0)), (1, .int (nI k)), (2, .int x2), (3, .int x3)]) hx hb dX5_lock_218 hl (by decide) rfl (fun ls hl => ?_)
                        refine lv_iinc (v := nI (i + 1)) (lv' := [(7, .int (nI (i + 1))), (6, .int mn), (5, .int 0), (4, .int (lb1 i)), (9, .int 1), (8, .int 0), (0, .ref (a 0)), (1, .int (nI k)), (2, .int x2), (3, .int x3)]) hx hb dX5_lock_220 hl (k := 5) rfl (fw_inc _) (by decide) rfl (fun ls hl => ?_)
                        refine lv_goto (tgt := 60) hx hb dX5_lock_223 (by decide) ?_
                        exact ih_60 (i + 1) (lb1 i) false mn _ _ _ (by omega) (by omega) (hm.elim Or.inl (fun ⟨j, hj, e⟩ => Or.inr ⟨j, by omega, e⟩)) (by rw [fw_itS, ← hacc]; simp [mx_lkW, ecl, eq_true c_77, c_98, eq_true c_115, c_143, c_155, c_174, c_208]) hP hD hS (lv_sub hl [0, 1, 2, 3, 6, 7, 8, 9] rfl)
                      · refine lv_iload hx hb dX5_lock_211 (lv_at hl 4 rfl) ?_
                        refine lv_goto (tgt := 218) hx hb dX5_lock_213 (by decide) ?_
                        refine lv_istore (lv' := [(6, .int (nI i)), (5, .int 0), (4, .int (lb1 i)), (9, .int 1), (8, .int 0), (7, .int (nI i)), (0, .ref (a 0)), (1, .int (nI k)), (2, .int x2), (3, .int x3)]) hx hb dX5_lock_218 hl (by decide) rfl (fun ls hl => ?_)
                        refine lv_iinc (v := nI (i + 1)) (lv' := [(7, .int (nI (i + 1))), (6, .int (nI i)), (5, .int 0), (4, .int (lb1 i)), (9, .int 1), (8, .int 0), (0, .ref (a 0)), (1, .int (nI k)), (2, .int x2), (3, .int x3)]) hx hb dX5_lock_220 hl (k := 5) rfl (fw_inc _) (by decide) rfl (fun ls hl => ?_)
                        refine lv_goto (tgt := 60) hx hb dX5_lock_223 (by decide) ?_
                        exact ih_60 (i + 1) (lb1 i) false (nI i) _ _ _ (by omega) (by omega) (Or.inr ⟨i, by omega, rfl⟩) (by rw [fw_itS, ← hacc]; simp [mx_lkW, ecl, eq_true c_77, c_98, eq_true c_115, c_143, c_155, c_174, eq_true c_208]) hP hD hS (lv_sub hl [0, 1, 2, 3, 6, 7, 8, 9] rfl)
              · refine lv_aload_n hx hb dX5_lock_118 rfl (lv_at hl 5 rfl) ?_
                refine va_get (D := G) (ci := 5) (v := .ref (a 14)) (C := RX5) (T := TX5) (N := 17) hx hb hts hin5 hown hK hP 0 rfl rfl 16 (by decide) fl_50 (fun _ h9 => h9) rfl dX5_lock_119 ?_
                refine lv_iload hx hb dX5_lock_122 (lv_at hl 1 rfl) ?_
                refine fw_iald (j := i) (f := lh1) hx hb hK hP 14 1 rfl rfl (by omega) (by decide) dX5_lock_124 ?_
                refine lv_iconst (v := 2) hx hb dX5_lock_125 (by decide) ?_
                refine lv_icmp_ne (tgt := 133) hx hb dX5_lock_126 (by decide) (fun c_126 => ?_) (fun c_126 => ?_)
                · refine lv_iconst (v := 0) hx hb dX5_lock_133 (by decide) ?_
                  refine lv_istore (lv' := [(9, .int 0), (8, .int 0), (7, .int (nI i)), (6, .int mn), (5, .int (fw_b bb)), (4, .int lst), (0, .ref (a 0)), (1, .int (nI k)), (2, .int x2), (3, .int x3)]) hx hb dX5_lock_134 hl (by decide) rfl (fun ls hl => ?_)
                  refine lv_iload hx hb dX5_lock_136 (lv_at hl 0 rfl) ?_
                  refine lv_if_eq (tgt := 168) hx hb dX5_lock_138 (by decide) (fun _ => ?_) (fun z9 => absurd z9 (by decide))
                  refine lv_iload hx hb dX5_lock_168 (lv_at hl 5 rfl) ?_
                  refine lv_istore (lv' := [(4, .int lst), (9, .int 0), (8, .int 0), (7, .int (nI i)), (6, .int mn), (5, .int (fw_b bb)), (0, .ref (a 0)), (1, .int (nI k)), (2, .int x2), (3, .int x3)]) hx hb dX5_lock_170 hl (by decide) rfl (fun ls hl => ?_)
                  refine lv_iload hx hb dX5_lock_172 (lv_at hl 5 rfl) ?_
                  refine lv_if_ne (tgt := 193) hx hb dX5_lock_174 (by decide) (fun c_174 => ?_) (fun c_174 => ?_)
                  · have c_174 := fw_b1.mp c_174
                    refine lv_iconst (v := 1) hx hb dX5_lock_193 (by decide) ?_
                    refine lv_goto (tgt := 198) hx hb dX5_lock_194 (by decide) ?_
                    refine lv_istore (lv' := [(5, .int 1), (4, .int lst), (9, .int 0), (8, .int 0), (7, .int (nI i)), (6, .int mn), (0, .ref (a 0)), (1, .int (nI k)), (2, .int x2), (3, .int x3)]) hx hb dX5_lock_198 hl (by decide) rfl (fun ls hl => ?_)
                    refine lv_aload_n hx hb dX5_lock_200 rfl (lv_at hl 6 rfl) ?_
                    refine va_get (D := G) (ci := 5) (v := .ref (a 13)) (C := RX5) (T := TX5) (N := 17) hx hb hts hin5 hown hK hP 0 rfl rfl 15 (by decide) fl_47 (fun _ h9 => h9) rfl dX5_lock_201 ?_
                    refine lv_iload hx hb dX5_lock_204 (lv_at hl 4 rfl) ?_
                    refine fw_iald (j := i) (f := lb1) hx hb hK hP 13 1 rfl rfl (by omega) (by decide) dX5_lock_206 ?_
                    refine lv_iload_n hx hb dX5_lock_207 rfl (lv_at hl 7 rfl) ?_
                    refine lv_icmp_ne (tgt := 216) hx hb dX5_lock_208 (by decide) (fun c_208 => ?_) (fun c_208 => ?_)
                    · refine lv_iload hx hb dX5_lock_216 (lv_at hl 5 rfl) ?_
                      refine lv_istore (lv' := [(6, .int mn), (5, .int 1), (4, .int lst), (9, .int 0), (8, .int 0), (7, .int (nI i)), (0, .ref (a 0)), (1, .int (nI k)), (2, .int x2), (3, .int x3)]) hx hb dX5_lock_218 hl (by decide) rfl (fun ls hl => ?_)
                      refine lv_iinc (v := nI (i + 1)) (lv' := [(7, .int (nI (i + 1))), (6, .int mn), (5, .int 1), (4, .int lst), (9, .int 0), (8, .int 0), (0, .ref (a 0)), (1, .int (nI k)), (2, .int x2), (3, .int x3)]) hx hb dX5_lock_220 hl (k := 5) rfl (fw_inc _) (by decide) rfl (fun ls hl => ?_)
                      refine lv_goto (tgt := 60) hx hb dX5_lock_223 (by decide) ?_
                      exact ih_60 (i + 1) lst true mn _ _ _ (by omega) (by omega) (hm.elim Or.inl (fun ⟨j, hj, e⟩ => Or.inr ⟨j, by omega, e⟩)) (by rw [fw_itS, ← hacc]; simp [mx_lkW, ecl, eq_true c_77, c_98, c_115, c_126, c_174, c_208]) hP hD hS (lv_sub hl [0, 1, 2, 3, 6, 7, 8, 9] rfl)
                    · refine lv_iload hx hb dX5_lock_211 (lv_at hl 4 rfl) ?_
                      refine lv_goto (tgt := 218) hx hb dX5_lock_213 (by decide) ?_
                      refine lv_istore (lv' := [(6, .int (nI i)), (5, .int 1), (4, .int lst), (9, .int 0), (8, .int 0), (7, .int (nI i)), (0, .ref (a 0)), (1, .int (nI k)), (2, .int x2), (3, .int x3)]) hx hb dX5_lock_218 hl (by decide) rfl (fun ls hl => ?_)
                      refine lv_iinc (v := nI (i + 1)) (lv' := [(7, .int (nI (i + 1))), (6, .int (nI i)), (5, .int 1), (4, .int lst), (9, .int 0), (8, .int 0), (0, .ref (a 0)), (1, .int (nI k)), (2, .int x2), (3, .int x3)]) hx hb dX5_lock_220 hl (k := 5) rfl (fw_inc _) (by decide) rfl (fun ls hl => ?_)
                      refine lv_goto (tgt := 60) hx hb dX5_lock_223 (by decide) ?_
                      exact ih_60 (i + 1) lst true (nI i) _ _ _ (by omega) (by omega) (Or.inr ⟨i, by omega, rfl⟩) (by rw [fw_itS, ← hacc]; simp [mx_lkW, ecl, eq_true c_77, c_98, c_115, c_126, c_174, eq_true c_208]) hP hD hS (lv_sub hl [0, 1, 2, 3, 6, 7, 8, 9] rfl)
                  · have c_174 := fw_b0.mp c_174
                    refine lv_iload hx hb dX5_lock_177 (lv_at hl 2 rfl) ?_
                    refine lv_if_eq (tgt := 197) hx hb dX5_lock_179 (by decide) (fun _ => ?_) (fun z9 => absurd z9 (by decide))
                    refine lv_iconst (v := 0) hx hb dX5_lock_197 (by decide) ?_
                    refine lv_istore (lv' := [(5, .int 0), (4, .int lst), (9, .int 0), (8, .int 0), (7, .int (nI i)), (6, .int mn), (0, .ref (a 0)), (1, .int (nI k)), (2, .int x2), (3, .int x3)]) hx hb dX5_lock_198 hl (by decide) rfl (fun ls hl => ?_)
                    refine lv_aload_n hx hb dX5_lock_200 rfl (lv_at hl 6 rfl) ?_
                    refine va_get (D := G) (ci := 5) (v := .ref (a 13)) (C := RX5) (T := TX5) (N := 17) hx hb hts hin5 hown hK hP 0 rfl rfl 15 (by decide) fl_47 (fun _ h9 => h9) rfl dX5_lock_201 ?_
                    refine lv_iload hx hb dX5_lock_204 (lv_at hl 4 rfl) ?_
                    refine fw_iald (j := i) (f := lb1) hx hb hK hP 13 1 rfl rfl (by omega) (by decide) dX5_lock_206 ?_
                    refine lv_iload_n hx hb dX5_lock_207 rfl (lv_at hl 7 rfl) ?_
                    refine lv_icmp_ne (tgt := 216) hx hb dX5_lock_208 (by decide) (fun c_208 => ?_) (fun c_208 => ?_)
                    · refine lv_iload hx hb dX5_lock_216 (lv_at hl 5 rfl) ?_
                      refine lv_istore (lv' := [(6, .int mn), (5, .int 0), (4, .int lst), (9, .int 0), (8, .int 0), (7, .int (nI i)), (0, .ref (a 0)), (1, .int (nI k)), (2, .int x2), (3, .int x3)]) hx hb dX5_lock_218 hl (by decide) rfl (fun ls hl => ?_)
                      refine lv_iinc (v := nI (i + 1)) (lv' := [(7, .int (nI (i + 1))), (6, .int mn), (5, .int 0), (4, .int lst), (9, .int 0), (8, .int 0), (0, .ref (a 0)), (1, .int (nI k)), (2, .int x2), (3, .int x3)]) hx hb dX5_lock_220 hl (k := 5) rfl (fw_inc _) (by decide) rfl (fun ls hl => ?_)
                      refine lv_goto (tgt := 60) hx hb dX5_lock_223 (by decide) ?_
                      exact ih_60 (i + 1) lst false mn _ _ _ (by omega) (by omega) (hm.elim Or.inl (fun ⟨j, hj, e⟩ => Or.inr ⟨j, by omega, e⟩)) (by rw [fw_itS, ← hacc]; simp [mx_lkW, ecl, eq_true c_77, c_98, c_115, c_126, c_174, c_208]) hP hD hS (lv_sub hl [0, 1, 2, 3, 6, 7, 8, 9] rfl)
                    · refine lv_iload hx hb dX5_lock_211 (lv_at hl 4 rfl) ?_
                      refine lv_goto (tgt := 218) hx hb dX5_lock_213 (by decide) ?_
                      refine lv_istore (lv' := [(6, .int (nI i)), (5, .int 0), (4, .int lst), (9, .int 0), (8, .int 0), (7, .int (nI i)), (0, .ref (a 0)), (1, .int (nI k)), (2, .int x2), (3, .int x3)]) hx hb dX5_lock_218 hl (by decide) rfl (fun ls hl => ?_)
                      refine lv_iinc (v := nI (i + 1)) (lv' := [(7, .int (nI (i + 1))), (6, .int (nI i)), (5, .int 0), (4, .int lst), (9, .int 0), (8, .int 0), (0, .ref (a 0)), (1, .int (nI k)), (2, .int x2), (3, .int x3)]) hx hb dX5_lock_220 hl (k := 5) rfl (fw_inc _) (by decide) rfl (fun ls hl => ?_)
                      refine lv_goto (tgt := 60) hx hb dX5_lock_223 (by decide) ?_
                      exact ih_60 (i + 1) lst false (nI i) _ _ _ (by omega) (by omega) (Or.inr ⟨i, by omega, rfl⟩) (by rw [fw_itS, ← hacc]; simp [mx_lkW, ecl, eq_true c_77, c_98, c_115, c_126, c_174, eq_true c_208]) hP hD hS (lv_sub hl [0, 1, 2, 3, 6, 7, 8, 9] rfl)
                · refine lv_iconst (v := 1) hx hb dX5_lock_129 (by decide) ?_
                  refine lv_goto (tgt := 134) hx hb dX5_lock_130 (by decide) ?_
                  refine lv_istore (lv' := [(9, .int 1), (8, .int 0), (7, .int (nI i)), (6, .int mn), (5, .int (fw_b bb)), (4, .int lst), (0, .ref (a 0)), (1, .int (nI k)), (2, .int x2), (3, .int x3)]) hx hb dX5_lock_134 hl (by decide) rfl (fun ls hl => ?_)
                  refine lv_iload hx hb dX5_lock_136 (lv_at hl 0 rfl) ?_
                  refine lv_if_eq (tgt := 168) hx hb dX5_lock_138 (by decide) (fun z9 => absurd z9 (by decide)) (fun _ => ?_)
                  refine lv_iload hx hb dX5_lock_141 (lv_at hl 5 rfl) ?_
                  refine lv_if_eq (tgt := 158) hx hb dX5_lock_143 (by decide) (fun c_143 => ?_) (fun c_143 => ?_)
                  · refine lv_aload_n hx hb dX5_lock_158 rfl (lv_at hl 6 rfl) ?_
                    refine va_get (D := G) (ci := 5) (v := .ref (a 13)) (C := RX5) (T := TX5) (N := 17) hx hb hts hin5 hown hK hP 0 rfl rfl 15 (by decide) fl_47 (fun _ h9 => h9) rfl dX5_lock_159 ?_
                    refine lv_iload hx hb dX5_lock_162 (lv_at hl 2 rfl) ?_
                    refine fw_iald (j := i) (f := lb1) hx hb hK hP 13 1 rfl rfl (by omega) (by decide) dX5_lock_164 ?_
                    refine lv_goto (tgt := 170) hx hb dX5_lock_165 (by decide) ?_
                    refine lv_istore (lv' := [(4, .int (lb1 i)), (9, .int 1), (8, .int 0), (7, .int (nI i)), (6, .int mn), (5, .int (fw_b bb)), (0, .ref (a 0)), (1, .int (nI k)), (2, .int x2), (3, .int x3)]) hx hb dX5_lock_170 hl (by decide) rfl (fun ls hl => ?_)
                    refine lv_iload hx hb dX5_lock_172 (lv_at hl 5 rfl) ?_
                    refine lv_if_ne (tgt := 193) hx hb dX5_lock_174 (by decide) (fun c_174 => ?_) (fun c_174 => ?_)
                    · have c_174 := fw_b1.mp c_174
                      refine lv_iconst (v := 1) hx hb dX5_lock_193 (by decide) ?_
                      refine lv_goto (tgt := 198) hx hb dX5_lock_194 (by decide) ?_
                      refine lv_istore (lv' := [(5, .int 1), (4, .int (lb1 i)), (9, .int 1), (8, .int 0), (7, .int (nI i)), (6, .int mn), (0, .ref (a 0)), (1, .int (nI k)), (2, .int x2), (3, .int x3)]) hx hb dX5_lock_198 hl (by decide) rfl (fun ls hl => ?_)
                      refine lv_aload_n hx hb dX5_lock_200 rfl (lv_at hl 6 rfl) ?_
                      refine va_get (D := G) (ci := 5) (v := .ref (a 13)) (C := RX5) (T := TX5) (N := 17) hx hb hts hin5 hown hK hP 0 rfl rfl 15 (by decide) fl_47 (fun _ h9 => h9) rfl dX5_lock_201 ?_
                      refine lv_iload hx hb dX5_lock_204 (lv_at hl 4 rfl) ?_
                      refine fw_iald (j := i) (f := lb1) hx hb hK hP 13 1 rfl rfl (by omega) (by decide) dX5_lock_206 ?_
                      refine lv_iload_n hx hb dX5_lock_207 rfl (lv_at hl 7 rfl) ?_
                      refine lv_icmp_ne (tgt := 216) hx hb dX5_lock_208 (by decide) (fun c_208 => ?_) (fun c_208 => ?_)
                      · refine lv_iload hx hb dX5_lock_216 (lv_at hl 5 rfl) ?_
                        refine lv_istore (lv' := [(6, .int mn), (5, .int 1), (4, .int (lb1 i)), (9, .int 1), (8, .int 0), (7, .int (nI i)), (0, .ref (a 0)), (1, .int (nI k)), (2, .int x2), (3, .int x3)]) hx hb dX5_lock_218 hl (by decide) rfl (fun ls hl => ?_)
                        refine lv_iinc (v := nI (i + 1)) (lv' := [(7, .int (nI (i + 1))), (6, .int mn), (5, .int 1), (4, .int (lb1 i)), (9, .int 1), (8, .int 0), (0, .ref (a 0)), (1, .int (nI k)), (2, .int x2), (3, .int x3)]) hx hb dX5_lock_220 hl (k := 5) rfl (fw_inc _) (by decide) rfl (fun ls hl => ?_)
                        refine lv_goto (tgt := 60) hx hb dX5_lock_223 (by decide) ?_
                        exact ih_60 (i + 1) (lb1 i) true mn _ _ _ (by omega) (by omega) (hm.elim Or.inl (fun ⟨j, hj, e⟩ => Or.inr ⟨j, by omega, e⟩)) (by rw [fw_itS, ← hacc]; simp [mx_lkW, ecl, eq_true c_77, c_98, c_115, eq_true c_126, eq_true c_143, c_174, c_208]) hP hD hS (lv_sub hl [0, 1, 2, 3, 6, 7, 8, 9] rfl)
                      · refine lv_iload hx hb dX5_lock_211 (lv_at hl 4 rfl) ?_
                        refine lv_goto (tgt := 218) hx hb dX5_lock_213 (by decide) ?_
                        refine lv_istore (lv' := [(6, .int (nI i)), (5, .int 1), (4, .int (lb1 i)), (9, .int 1), (8, .int 0), (7, .int (nI i)), (0, .ref (a 0)), (1, .int (nI k)), (2, .int x2), (3, .int x3)]) hx hb dX5_lock_218 hl (by decide) rfl (fun ls hl => ?_)
                        refine lv_iinc (v := nI (i + 1)) (lv' := [(7, .int (nI (i + 1))), (6, .int (nI i)), (5, .int 1), (4, .int (lb1 i)), (9, .int 1), (8, .int 0), (0, .ref (a 0)), (1, .int (nI k)), (2, .int x2), (3, .int x3)]) hx hb dX5_lock_220 hl (k := 5) rfl (fw_inc _) (by decide) rfl (fun ls hl => ?_)
                        refine lv_goto (tgt := 60) hx hb dX5_lock_223 (by decide) ?_
                        exact ih_60 (i + 1) (lb1 i) true (nI i) _ _ _ (by omega) (by omega) (Or.inr ⟨i, by omega, rfl⟩) (by rw [fw_itS, ← hacc]; simp [mx_lkW, ecl, eq_true c_77, c_98, c_115, eq_true c_126, eq_true c_143, c_174, eq_true c_208]) hP hD hS (lv_sub hl [0, 1, 2, 3, 6, 7, 8, 9] rfl)
                    · have c_174 := fw_b0.mp c_174
                      refine lv_iload hx hb dX5_lock_177 (lv_at hl 2 rfl) ?_
                      refine lv_if_eq (tgt := 197) hx hb dX5_lock_179 (by decide) (fun _ => ?_) (fun z9 => absurd z9 (by decide))
                      refine lv_iconst (v := 0) hx hb dX5_lock_197 (by decide) ?_
                      refine lv_istore (lv' := [(5, .int 0), (4, .int (lb1 i)), (9, .int 1), (8, .int 0), (7, .int (nI i)), (6, .int mn), (0, .ref (a 0)), (1, .int (nI k)), (2, .int x2), (3, .int x3)]) hx hb dX5_lock_198 hl (by decide) rfl (fun ls hl => ?_)
                      refine lv_aload_n hx hb dX5_lock_200 rfl (lv_at hl 6 rfl) ?_
                      refine va_get (D := G) (ci := 5) (v := .ref (a 13)) (C := RX5) (T := TX5) (N := 17) hx hb hts hin5 hown hK hP 0 rfl rfl 15 (by decide) fl_47 (fun _ h9 => h9) rfl dX5_lock_201 ?_
                      refine lv_iload hx hb dX5_lock_204 (lv_at hl 4 rfl) ?_
                      refine fw_iald (j := i) (f := lb1) hx hb hK hP 13 1 rfl rfl (by omega) (by decide) dX5_lock_206 ?_
                      refine lv_iload_n hx hb dX5_lock_207 rfl (lv_at hl 7 rfl) ?_
                      refine lv_icmp_ne (tgt := 216) hx hb dX5_lock_208 (by decide) (fun c_208 => ?_) (fun c_208 => ?_)
                      · refine lv_iload hx hb dX5_lock_216 (lv_at hl 5 rfl) ?_
                        refine lv_istore (lv' := [(6, .int mn), (5, .int 0), (4, .int (lb1 i)), (9, .int 1), (8, .int 0), (7, .int (nI i)), (0, .ref (a 0)), (1, .int (nI k)), (2, .int x2), (3, .int x3)]) hx hb dX5_lock_218 hl (by decide) rfl (fun ls hl => ?_)
                        refine lv_iinc (v := nI (i + 1)) (lv' := [(7, .int (nI (i + 1))), (6, .int mn), (5, .int 0), (4, .int (lb1 i)), (9, .int 1), (8, .int 0), (0, .ref (a 0)), (1, .int (nI k)), (2, .int x2), (3, .int x3)]) hx hb dX5_lock_220 hl (k := 5) rfl (fw_inc _) (by decide) rfl (fun ls hl => ?_)
                        refine lv_goto (tgt := 60) hx hb dX5_lock_223 (by decide) ?_
                        exact ih_60 (i + 1) (lb1 i) false mn _ _ _ (by omega) (by omega) (hm.elim Or.inl (fun ⟨j, hj, e⟩ => Or.inr ⟨j, by omega, e⟩)) (by rw [fw_itS, ← hacc]; simp [mx_lkW, ecl, eq_true c_77, c_98, c_115, eq_true c_126, eq_true c_143, c_174, c_208]) hP hD hS (lv_sub hl [0, 1, 2, 3, 6, 7, 8, 9] rfl)
                      · refine lv_iload hx hb dX5_lock_211 (lv_at hl 4 rfl) ?_
                        refine lv_goto (tgt := 218) hx hb dX5_lock_213 (by decide) ?_
                        refine lv_istore (lv' := [(6, .int (nI i)), (5, .int 0), (4, .int (lb1 i)), (9, .int 1), (8, .int 0), (7, .int (nI i)), (0, .ref (a 0)), (1, .int (nI k)), (2, .int x2), (3, .int x3)]) hx hb dX5_lock_218 hl (by decide) rfl (fun ls hl => ?_)
                        refine lv_iinc (v := nI (i + 1)) (lv' := [(7, .int (nI (i + 1))), (6, .int (nI i)), (5, .int 0), (4, .int (lb1 i)), (9, .int 1), (8, .int 0), (0, .ref (a 0)), (1, .int (nI k)), (2, .int x2), (3, .int x3)]) hx hb dX5_lock_220 hl (k := 5) rfl (fw_inc _) (by decide) rfl (fun ls hl => ?_)
                        refine lv_goto (tgt := 60) hx hb dX5_lock_223 (by decide) ?_
                        exact ih_60 (i + 1) (lb1 i) false (nI i) _ _ _ (by omega) (by omega) (Or.inr ⟨i, by omega, rfl⟩) (by rw [fw_itS, ← hacc]; simp [mx_lkW, ecl, eq_true c_77, c_98, c_115, eq_true c_126, eq_true c_143, c_174, eq_true c_208]) hP hD hS (lv_sub hl [0, 1, 2, 3, 6, 7, 8, 9] rfl)
                  · refine lv_aload_n hx hb dX5_lock_146 rfl (lv_at hl 6 rfl) ?_
                    refine va_get (D := G) (ci := 5) (v := .ref (a 13)) (C := RX5) (T := TX5) (N := 17) hx hb hts hin5 hown hK hP 0 rfl rfl 15 (by decide) fl_47 (fun _ h9 => h9) rfl dX5_lock_147 ?_
                    refine lv_iload hx hb dX5_lock_150 (lv_at hl 2 rfl) ?_
                    refine fw_iald (j := i) (f := lb1) hx hb hK hP 13 1 rfl rfl (by omega) (by decide) dX5_lock_152 ?_
                    refine lv_iload hx hb dX5_lock_153 (lv_at hl 5 rfl) ?_
                    refine lv_icmp_ge (tgt := 168) hx hb dX5_lock_155 (by decide) (fun c_155 => ?_) (fun c_155 => ?_)
                    · refine lv_iload hx hb dX5_lock_168 (lv_at hl 5 rfl) ?_
                      refine lv_istore (lv' := [(4, .int lst), (9, .int 1), (8, .int 0), (7, .int (nI i)), (6, .int mn), (5, .int (fw_b bb)), (0, .ref (a 0)), (1, .int (nI k)), (2, .int x2), (3, .int x3)]) hx hb dX5_lock_170 hl (by decide) rfl (fun ls hl => ?_)
                      refine lv_iload hx hb dX5_lock_172 (lv_at hl 5 rfl) ?_
                      refine lv_if_ne (tgt := 193) hx hb dX5_lock_174 (by decide) (fun c_174 => ?_) (fun c_174 => ?_)
                      · have c_174 := fw_b1.mp c_174
                        refine lv_iconst (v := 1) hx hb dX5_lock_193 (by decide) ?_
                        refine lv_goto (tgt := 198) hx hb dX5_lock_194 (by decide) ?_
                        refine lv_istore (lv' := [(5, .int 1), (4, .int lst), (9, .int 1), (8, .int 0), (7, .int (nI i)), (6, .int mn), (0, .ref (a 0)), (1, .int (nI k)), (2, .int x2), (3, .int x3)]) hx hb dX5_lock_198 hl (by decide) rfl (fun ls hl => ?_)
                        refine lv_aload_n hx hb dX5_lock_200 rfl (lv_at hl 6 rfl) ?_
                        refine va_get (D := G) (ci := 5) (v := .ref (a 13)) (C := RX5) (T := TX5) (N := 17) hx hb hts hin5 hown hK hP 0 rfl rfl 15 (by decide) fl_47 (fun _ h9 => h9) rfl dX5_lock_201 ?_
                        refine lv_iload hx hb dX5_lock_204 (lv_at hl 4 rfl) ?_
                        refine fw_iald (j := i) (f := lb1) hx hb hK hP 13 1 rfl rfl (by omega) (by decide) dX5_lock_206 ?_
                        refine lv_iload_n hx hb dX5_lock_207 rfl (lv_at hl 7 rfl) ?_
                        refine lv_icmp_ne (tgt := 216) hx hb dX5_lock_208 (by decide) (fun c_208 => ?_) (fun c_208 => ?_)
                        · refine lv_iload hx hb dX5_lock_216 (lv_at hl 5 rfl) ?_
                          refine lv_istore (lv' := [(6, .int mn), (5, .int 1), (4, .int lst), (9, .int 1), (8, .int 0), (7, .int (nI i)), (0, .ref (a 0)), (1, .int (nI k)), (2, .int x2), (3, .int x3)]) hx hb dX5_lock_218 hl (by decide) rfl (fun ls hl => ?_)
                          refine lv_iinc (v := nI (i + 1)) (lv' := [(7, .int (nI (i + 1))), (6, .int mn), (5, .int 1), (4, .int lst), (9, .int 1), (8, .int 0), (0, .ref (a 0)), (1, .int (nI k)), (2, .int x2), (3, .int x3)]) hx hb dX5_lock_220 hl (k := 5) rfl (fw_inc _) (by decide) rfl (fun ls hl => ?_)
                          refine lv_goto (tgt := 60) hx hb dX5_lock_223 (by decide) ?_
                          exact ih_60 (i + 1) lst true mn _ _ _ (by omega) (by omega) (hm.elim Or.inl (fun ⟨j, hj, e⟩ => Or.inr ⟨j, by omega, e⟩)) (by rw [fw_itS, ← hacc]; simp [mx_lkW, ecl, eq_true c_77, c_98, c_115, eq_true c_126, c_143, c_155, c_174, c_208]) hP hD hS (lv_sub hl [0, 1, 2, 3, 6, 7, 8, 9] rfl)
                        · refine lv_iload hx hb dX5_lock_211 (lv_at hl 4 rfl) ?_
                          refine lv_goto (tgt := 218) hx hb dX5_lock_213 (by decide) ?_
                          refine lv_istore (lv' := [(6, .int (nI i)), (5, .int 1), (4, .int lst), (9, .int 1), (8, .int 0), (7, .int (nI i)), (0, .ref (a 0)), (1, .int (nI k)), (2, .int x2), (3, .int x3)]) hx hb dX5_lock_218 hl (by decide) rfl (fun ls hl => ?_)
                          refine lv_iinc (v := nI (i + 1)) (lv' := [(7, .int (nI (i + 1))), (6, .int (nI i)), (5, .int 1), (4, .int lst), (9, .int 1), (8, .int 0), (0, .ref (a 0)), (1, .int (nI k)), (2, .int x2), (3, .int x3)]) hx hb dX5_lock_220 hl (k := 5) rfl (fw_inc _) (by decide) rfl (fun ls hl => ?_)
                          refine lv_goto (tgt := 60) hx hb dX5_lock_223 (by decide) ?_
                          exact ih_60 (i + 1) lst true (nI i) _ _ _ (by omega) (by omega) (Or.inr ⟨i, by omega, rfl⟩) (by rw [fw_itS, ← hacc]; simp [mx_lkW, ecl, eq_true c_77, c_98, c_115, eq_true c_126, c_143, c_155, c_174, eq_true c_208]) hP hD hS (lv_sub hl [0, 1, 2, 3, 6, 7, 8, 9] rfl)
                      · have c_174 := fw_b0.mp c_174
                        refine lv_iload hx hb dX5_lock_177 (lv_at hl 2 rfl) ?_
                        refine lv_if_eq (tgt := 197) hx hb dX5_lock_179 (by decide) (fun _ => ?_) (fun z9 => absurd z9 (by decide))
                        refine lv_iconst (v := 0) hx hb dX5_lock_197 (by decide) ?_
                        refine lv_istore (lv' := [(5, .int 0), (4, .int lst), (9, .int 1), (8, .int 0), (7, .int (nI i)), (6, .int mn), (0, .ref (a 0)), (1, .int (nI k)), (2, .int x2), (3, .int x3)]) hx hb dX5_lock_198 hl (by decide) rfl (fun ls hl => ?_)
                        refine lv_aload_n hx hb dX5_lock_200 rfl (lv_at hl 6 rfl) ?_
                        refine va_get (D := G) (ci := 5) (v := .ref (a 13)) (C := RX5) (T := TX5) (N := 17) hx hb hts hin5 hown hK hP 0 rfl rfl 15 (by decide) fl_47 (fun _ h9 => h9) rfl dX5_lock_201 ?_
                        refine lv_iload hx hb dX5_lock_204 (lv_at hl 4 rfl) ?_
                        refine fw_iald (j := i) (f := lb1) hx hb hK hP 13 1 rfl rfl (by omega) (by decide) dX5_lock_206 ?_
                        refine lv_iload_n hx hb dX5_lock_207 rfl (lv_at hl 7 rfl) ?_
                        refine lv_icmp_ne (tgt := 216) hx hb dX5_lock_208 (by decide) (fun c_208 => ?_) (fun c_208 => ?_)
                        · refine lv_iload hx hb dX5_lock_216 (lv_at hl 5 rfl) ?_
                          refine lv_istore (lv' := [(6, .int mn), (5, .int 0), (4, .int lst), (9, .int 1), (8, .int 0), (7, .int (nI i)), (0, .ref (a 0)), (1, .int (nI k)), (2, .int x2), (3, .int x3)]) hx hb dX5_lock_218 hl (by decide) rfl (fun ls hl => ?_)
                          refine lv_iinc (v := nI (i + 1)) (lv' := [(7, .int (nI (i + 1))), (6, .int mn), (5, .int 0), (4, .int lst), (9, .int 1), (8, .int 0), (0, .ref (a 0)), (1, .int (nI k)), (2, .int x2), (3, .int x3)]) hx hb dX5_lock_220 hl (k := 5) rfl (fw_inc _) (by decide) rfl (fun ls hl => ?_)
                          refine lv_goto (tgt := 60) hx hb dX5_lock_223 (by decide) ?_
                          exact ih_60 (i + 1) lst false mn _ _ _ (by omega) (by omega) (hm.elim Or.inl (fun ⟨j, hj, e⟩ => Or.inr ⟨j, by omega, e⟩)) (by rw [fw_itS, ← hacc]; simp [mx_lkW, ecl, eq_true c_77, c_98, c_115, eq_true c_126, c_143, c_155, c_174, c_208]) hP hD hS (lv_sub hl [0, 1, 2, 3, 6, 7, 8, 9] rfl)
                        · refine lv_iload hx hb dX5_lock_211 (lv_at hl 4 rfl) ?_
                          refine lv_goto (tgt := 218) hx hb dX5_lock_213 (by decide) ?_
                          refine lv_istore (lv' := [(6, .int (nI i)), (5, .int 0), (4, .int lst), (9, .int 1), (8, .int 0), (7, .int (nI i)), (0, .ref (a 0)), (1, .int (nI k)), (2, .int x2), (3, .int x3)]) hx hb dX5_lock_218 hl (by decide) rfl (fun ls hl => ?_)
                          refine lv_iinc (v := nI (i + 1)) (lv' := [(7, .int (nI (i + 1))), (6, .int (nI i)), (5, .int 0), (4, .int lst), (9, .int 1), (8, .int 0), (0, .ref (a 0)), (1, .int (nI k)), (2, .int x2), (3, .int x3)]) hx hb dX5_lock_220 hl (k := 5) rfl (fw_inc _) (by decide) rfl (fun ls hl => ?_)
                          refine lv_goto (tgt := 60) hx hb dX5_lock_223 (by decide) ?_
                          exact ih_60 (i + 1) lst false (nI i) _ _ _ (by omega) (by omega) (Or.inr ⟨i, by omega, rfl⟩) (by rw [fw_itS, ← hacc]; simp [mx_lkW, ecl, eq_true c_77, c_98, c_115, eq_true c_126, c_143, c_155, c_174, eq_true c_208]) hP hD hS (lv_sub hl [0, 1, 2, 3, 6, 7, 8, 9] rfl)
                    · refine lv_aload_n hx hb dX5_lock_158 rfl (lv_at hl 6 rfl) ?_
                      refine va_get (D := G) (ci := 5) (v := .ref (a 13)) (C := RX5) (T := TX5) (N := 17) hx hb hts hin5 hown hK hP 0 rfl rfl 15 (by decide) fl_47 (fun _ h9 => h9) rfl dX5_lock_159 ?_
                      refine lv_iload hx hb dX5_lock_162 (lv_at hl 2 rfl) ?_
                      refine fw_iald (j := i) (f := lb1) hx hb hK hP 13 1 rfl rfl (by omega) (by decide) dX5_lock_164 ?_
                      refine lv_goto (tgt := 170) hx hb dX5_lock_165 (by decide) ?_
                      refine lv_istore (lv' := [(4, .int (lb1 i)), (9, .int 1), (8, .int 0), (7, .int (nI i)), (6, .int mn), (5, .int (fw_b bb)), (0, .ref (a 0)), (1, .int (nI k)), (2, .int x2), (3, .int x3)]) hx hb dX5_lock_170 hl (by decide) rfl (fun ls hl => ?_)
                      refine lv_iload hx hb dX5_lock_172 (lv_at hl 5 rfl) ?_
                      refine lv_if_ne (tgt := 193) hx hb dX5_lock_174 (by decide) (fun c_174 => ?_) (fun c_174 => ?_)
                      · have c_174 := fw_b1.mp c_174
                        refine lv_iconst (v := 1) hx hb dX5_lock_193 (by decide) ?_
                        refine lv_goto (tgt := 198) hx hb dX5_lock_194 (by decide) ?_
                        refine lv_istore (lv' := [(5, .int 1), (4, .int (lb1 i)), (9, .int 1), (8, .int 0), (7, .int (nI i)), (6, .int mn), (0, .ref (a 0)), (1, .int (nI k)), (2, .int x2), (3, .int x3)]) hx hb dX5_lock_198 hl (by decide) rfl (fun ls hl => ?_)
                        refine lv_aload_n hx hb dX5_lock_200 rfl (lv_at hl 6 rfl) ?_
                        refine va_get (D := G) (ci := 5) (v := .ref (a 13)) (C := RX5) (T := TX5) (N := 17) hx hb hts hin5 hown hK hP 0 rfl rfl 15 (by decide) fl_47 (fun _ h9 => h9) rfl dX5_lock_201 ?_
                        refine lv_iload hx hb dX5_lock_204 (lv_at hl 4 rfl) ?_
                        refine fw_iald (j := i) (f := lb1) hx hb hK hP 13 1 rfl rfl (by omega) (by decide) dX5_lock_206 ?_
                        refine lv_iload_n hx hb dX5_lock_207 rfl (lv_at hl 7 rfl) ?_
                        refine lv_icmp_ne (tgt := 216) hx hb dX5_lock_208 (by decide) (fun c_208 => ?_) (fun c_208 => ?_)
                        · refine lv_iload hx hb dX5_lock_216 (lv_at hl 5 rfl) ?_
                          refine lv_istore (lv' := [(6, .int mn), (5, .int 1), (4, .int (lb1 i)), (9, .int 1), (8, .int 0), (7, .int (nI i)), (0, .ref (a 0)), (1, .int (nI k)), (2, .int x2), (3, .int x3)]) hx hb dX5_lock_218 hl (by decide) rfl (fun ls hl => ?_)
                          refine lv_iinc (v := nI (i + 1)) (lv' := [(7, .int (nI (i + 1))), (6, .int mn), (5, .int 1), (4, .int (lb1 i)), (9, .int 1), (8, .int 0), (0, .ref (a 0)), (1, .int (nI k)), (2, .int x2), (3, .int x3)]) hx hb dX5_lock_220 hl (k := 5) rfl (fw_inc _) (by decide) rfl (fun ls hl => ?_)
                          refine lv_goto (tgt := 60) hx hb dX5_lock_223 (by decide) ?_
                          exact ih_60 (i + 1) (lb1 i) true mn _ _ _ (by omega) (by omega) (hm.elim Or.inl (fun ⟨j, hj, e⟩ => Or.inr ⟨j, by omega, e⟩)) (by rw [fw_itS, ← hacc]; simp [mx_lkW, ecl, eq_true c_77, c_98, c_115, eq_true c_126, c_143, c_155, c_174, c_208]) hP hD hS (lv_sub hl [0, 1, 2, 3, 6, 7, 8, 9] rfl)
                        · refine lv_iload hx hb dX5_lock_211 (lv_at hl 4 rfl) ?_
                          refine lv_goto (tgt := 218) hx hb dX5_lock_213 (by decide) ?_
                          refine lv_istore (lv' := [(6, .int (nI i)), (5, .int 1), (4, .int (lb1 i)), (9, .int 1), (8, .int 0), (7, .int (nI i)), (0, .ref (a 0)), (1, .int (nI k)), (2, .int x2), (3, .int x3)]) hx hb dX5_lock_218 hl (by decide) rfl (fun ls hl => ?_)
                          refine lv_iinc (v := nI (i + 1)) (lv' := [(7, .int (nI (i + 1))), (6, .int (nI i)), (5, .int 1), (4, .int (lb1 i)), (9, .int 1), (8, .int 0), (0, .ref (a 0)), (1, .int (nI k)), (2, .int x2), (3, .int x3)]) hx hb dX5_lock_220 hl (k := 5) rfl (fw_inc _) (by decide) rfl (fun ls hl => ?_)
                          refine lv_goto (tgt := 60) hx hb dX5_lock_223 (by decide) ?_
                          exact ih_60 (i + 1) (lb1 i) true (nI i) _ _ _ (by omega) (by omega) (Or.inr ⟨i, by omega, rfl⟩) (by rw [fw_itS, ← hacc]; simp [mx_lkW, ecl, eq_true c_77, c_98, c_115, eq_true c_126, c_143, c_155, c_174, eq_true c_208]) hP hD hS (lv_sub hl [0, 1, 2, 3, 6, 7, 8, 9] rfl)
                      · have c_174 := fw_b0.mp c_174
                        refine lv_iload hx hb dX5_lock_177 (lv_at hl 2 rfl) ?_
                        refine lv_if_eq (tgt := 197) hx hb dX5_lock_179 (by decide) (fun _ => ?_) (fun z9 => absurd z9 (by decide))
                        refine lv_iconst (v := 0) hx hb dX5_lock_197 (by decide) ?_
                        refine lv_istore (lv' := [(5, .int 0), (4, .int (lb1 i)), (9, .int 1), (8, .int 0), (7, .int (nI i)), (6, .int mn), (0, .ref (a 0)), (1, .int (nI k)), (2, .int x2), (3, .int x3)]) hx hb dX5_lock_198 hl (by decide) rfl (fun ls hl => ?_)
                        refine lv_aload_n hx hb dX5_lock_200 rfl (lv_at hl 6 rfl) ?_
                        refine va_get (D := G) (ci := 5) (v := .ref (a 13)) (C := RX5) (T := TX5) (N := 17) hx hb hts hin5 hown hK hP 0 rfl rfl 15 (by decide) fl_47 (fun _ h9 => h9) rfl dX5_lock_201 ?_
                        refine lv_iload hx hb dX5_lock_204 (lv_at hl 4 rfl) ?_
                        refine fw_iald (j := i) (f := lb1) hx hb hK hP 13 1 rfl rfl (by omega) (by decide) dX5_lock_206 ?_
                        refine lv_iload_n hx hb dX5_lock_207 rfl (lv_at hl 7 rfl) ?_
                        refine lv_icmp_ne (tgt := 216) hx hb dX5_lock_208 (by decide) (fun c_208 => ?_) (fun c_208 => ?_)
                        · refine lv_iload hx hb dX5_lock_216 (lv_at hl 5 rfl) ?_
                          refine lv_istore (lv' := [(6, .int mn), (5, .int 0), (4, .int (lb1 i)), (9, .int 1), (8, .int 0), (7, .int (nI i)), (0, .ref (a 0)), (1, .int (nI k)), (2, .int x2), (3, .int x3)]) hx hb dX5_lock_218 hl (by decide) rfl (fun ls hl => ?_)
                          refine lv_iinc (v := nI (i + 1)) (lv' := [(7, .int (nI (i + 1))), (6, .int mn), (5, .int 0), (4, .int (lb1 i)), (9, .int 1), (8, .int 0), (0, .ref (a 0)), (1, .int (nI k)), (2, .int x2), (3, .int x3)]) hx hb dX5_lock_220 hl (k := 5) rfl (fw_inc _) (by decide) rfl (fun ls hl => ?_)
                          refine lv_goto (tgt := 60) hx hb dX5_lock_223 (by decide) ?_
                          exact ih_60 (i + 1) (lb1 i) false mn _ _ _ (by omega) (by omega) (hm.elim Or.inl (fun ⟨j, hj, e⟩ => Or.inr ⟨j, by omega, e⟩)) (by rw [fw_itS, ← hacc]; simp [mx_lkW, ecl, eq_true c_77, c_98, c_115, eq_true c_126, c_143, c_155, c_174, c_208]) hP hD hS (lv_sub hl [0, 1, 2, 3, 6, 7, 8, 9] rfl)
                        · refine lv_iload hx hb dX5_lock_211 (lv_at hl 4 rfl) ?_
                          refine lv_goto (tgt := 218) hx hb dX5_lock_213 (by decide) ?_
                          refine lv_istore (lv' := [(6, .int (nI i)), (5, .int 0), (4, .int (lb1 i)), (9, .int 1), (8, .int 0), (7, .int (nI i)), (0, .ref (a 0)), (1, .int (nI k)), (2, .int x2), (3, .int x3)]) hx hb dX5_lock_218 hl (by decide) rfl (fun ls hl => ?_)
                          refine lv_iinc (v := nI (i + 1)) (lv' := [(7, .int (nI (i + 1))), (6, .int (nI i)), (5, .int 0), (4, .int (lb1 i)), (9, .int 1), (8, .int 0), (0, .ref (a 0)), (1, .int (nI k)), (2, .int x2), (3, .int x3)]) hx hb dX5_lock_220 hl (k := 5) rfl (fw_inc _) (by decide) rfl (fun ls hl => ?_)
                          refine lv_goto (tgt := 60) hx hb dX5_lock_223 (by decide) ?_
                          exact ih_60 (i + 1) (lb1 i) false (nI i) _ _ _ (by omega) (by omega) (Or.inr ⟨i, by omega, rfl⟩) (by rw [fw_itS, ← hacc]; simp [mx_lkW, ecl, eq_true c_77, c_98, c_115, eq_true c_126, c_143, c_155, c_174, eq_true c_208]) hP hD hS (lv_sub hl [0, 1, 2, 3, 6, 7, 8, 9] rfl)
            · refine lv_iconst (v := 1) hx hb dX5_lock_101 (by decide) ?_
              refine lv_goto (tgt := 106) hx hb dX5_lock_102 (by decide) ?_
              refine lv_istore (lv' := [(8, .int 1), (7, .int (nI i)), (6, .int mn), (5, .int (fw_b bb)), (4, .int lst), (0, .ref (a 0)), (1, .int (nI k)), (2, .int x2), (3, .int x3)]) hx hb dX5_lock_106 hl (by decide) rfl (fun ls hl => ?_)
              refine lv_iload hx hb dX5_lock_108 (lv_at hl 0 rfl) ?_
              refine lv_if_ne (tgt := 133) hx hb dX5_lock_110 (by decide) (fun _ => ?_) (fun z9 => absurd z9 (by decide))
              refine lv_iconst (v := 0) hx hb dX5_lock_133 (by decide) ?_
              refine lv_istore (lv' := [(9, .int 0), (8, .int 1), (7, .int (nI i)), (6, .int mn), (5, .int (fw_b bb)), (4, .int lst), (0, .ref (a 0)), (1, .int (nI k)), (2, .int x2), (3, .int x3)]) hx hb dX5_lock_134 hl (by decide) rfl (fun ls hl => ?_)
              refine lv_iload hx hb dX5_lock_136 (lv_at hl 0 rfl) ?_
              refine lv_if_eq (tgt := 168) hx hb dX5_lock_138 (by decide) (fun _ => ?_) (fun z9 => absurd z9 (by decide))
              refine lv_iload hx hb dX5_lock_168 (lv_at hl 5 rfl) ?_
              refine lv_istore (lv' := [(4, .int lst), (9, .int 0), (8, .int 1), (7, .int (nI i)), (6, .int mn), (5, .int (fw_b bb)), (0, .ref (a 0)), (1, .int (nI k)), (2, .int x2), (3, .int x3)]) hx hb dX5_lock_170 hl (by decide) rfl (fun ls hl => ?_)
              refine lv_iload hx hb dX5_lock_172 (lv_at hl 5 rfl) ?_
              refine lv_if_ne (tgt := 193) hx hb dX5_lock_174 (by decide) (fun c_174 => ?_) (fun c_174 => ?_)
              · have c_174 := fw_b1.mp c_174
                refine lv_iconst (v := 1) hx hb dX5_lock_193 (by decide) ?_
                refine lv_goto (tgt := 198) hx hb dX5_lock_194 (by decide) ?_
                refine lv_istore (lv' := [(5, .int 1), (4, .int lst), (9, .int 0), (8, .int 1), (7, .int (nI i)), (6, .int mn), (0, .ref (a 0)), (1, .int (nI k)), (2, .int x2), (3, .int x3)]) hx hb dX5_lock_198 hl (by decide) rfl (fun ls hl => ?_)
                refine lv_aload_n hx hb dX5_lock_200 rfl (lv_at hl 6 rfl) ?_
                refine va_get (D := G) (ci := 5) (v := .ref (a 13)) (C := RX5) (T := TX5) (N := 17) hx hb hts hin5 hown hK hP 0 rfl rfl 15 (by decide) fl_47 (fun _ h9 => h9) rfl dX5_lock_201 ?_
                refine lv_iload hx hb dX5_lock_204 (lv_at hl 4 rfl) ?_
                refine fw_iald (j := i) (f := lb1) hx hb hK hP 13 1 rfl rfl (by omega) (by decide) dX5_lock_206 ?_
                refine lv_iload_n hx hb dX5_lock_207 rfl (lv_at hl 7 rfl) ?_
                refine lv_icmp_ne (tgt := 216) hx hb dX5_lock_208 (by decide) (fun c_208 => ?_) (fun c_208 => ?_)
                · refine lv_iload hx hb dX5_lock_216 (lv_at hl 5 rfl) ?_
                  refine lv_istore (lv' := [(6, .int mn), (5, .int 1), (4, .int lst), (9, .int 0), (8, .int 1), (7, .int (nI i)), (0, .ref (a 0)), (1, .int (nI k)), (2, .int x2), (3, .int x3)]) hx hb dX5_lock_218 hl (by decide) rfl (fun ls hl => ?_)
                  refine lv_iinc (v := nI (i + 1)) (lv' := [(7, .int (nI (i + 1))), (6, .int mn), (5, .int 1), (4, .int lst), (9, .int 0), (8, .int 1), (0, .ref (a 0)), (1, .int (nI k)), (2, .int x2), (3, .int x3)]) hx hb dX5_lock_220 hl (k := 5) rfl (fw_inc _) (by decide) rfl (fun ls hl => ?_)
                  refine lv_goto (tgt := 60) hx hb dX5_lock_223 (by decide) ?_
                  exact ih_60 (i + 1) lst true mn _ _ _ (by omega) (by omega) (hm.elim Or.inl (fun ⟨j, hj, e⟩ => Or.inr ⟨j, by omega, e⟩)) (by rw [fw_itS, ← hacc]; simp [mx_lkW, ecl, eq_true c_77, eq_true c_98, c_174, c_208]) hP hD hS (lv_sub hl [0, 1, 2, 3, 6, 7, 8, 9] rfl)
                · refine lv_iload hx hb dX5_lock_211 (lv_at hl 4 rfl) ?_
                  refine lv_goto (tgt := 218) hx hb dX5_lock_213 (by decide) ?_
                  refine lv_istore (lv' := [(6, .int (nI i)), (5, .int 1), (4, .int lst), (9, .int 0), (8, .int 1), (7, .int (nI i)), (0, .ref (a 0)), (1, .int (nI k)), (2, .int x2), (3, .int x3)]) hx hb dX5_lock_218 hl (by decide) rfl (fun ls hl => ?_)
                  refine lv_iinc (v := nI (i + 1)) (lv' := [(7, .int (nI (i + 1))), (6, .int (nI i)), (5, .int 1), (4, .int lst), (9, .int 0), (8, .int 1), (0, .ref (a 0)), (1, .int (nI k)), (2, .int x2), (3, .int x3)]) hx hb dX5_lock_220 hl (k := 5) rfl (fw_inc _) (by decide) rfl (fun ls hl => ?_)
                  refine lv_goto (tgt := 60) hx hb dX5_lock_223 (by decide) ?_
                  exact ih_60 (i + 1) lst true (nI i) _ _ _ (by omega) (by omega) (Or.inr ⟨i, by omega, rfl⟩) (by rw [fw_itS, ← hacc]; simp [mx_lkW, ecl, eq_true c_77, eq_true c_98, c_174, eq_true c_208]) hP hD hS (lv_sub hl [0, 1, 2, 3, 6, 7, 8, 9] rfl)
              · have c_174 := fw_b0.mp c_174
                refine lv_iload hx hb dX5_lock_177 (lv_at hl 2 rfl) ?_
                refine lv_if_eq (tgt := 197) hx hb dX5_lock_179 (by decide) (fun z9 => absurd z9 (by decide)) (fun _ => ?_)
                refine lv_aload_n hx hb dX5_lock_182 rfl (lv_at hl 6 rfl) ?_
                refine va_get (D := G) (ci := 5) (v := .ref (a 14)) (C := RX5) (T := TX5) (N := 17) hx hb hts hin5 hown hK hP 0 rfl rfl 16 (by decide) fl_50 (fun _ h9 => h9) rfl dX5_lock_183 ?_
                refine lv_iload hx hb dX5_lock_186 (lv_at hl 3 rfl) ?_
                refine fw_iald (j := i) (f := lh1) hx hb hK hP 14 1 rfl rfl (by omega) (by decide) dX5_lock_188 ?_
                refine lv_iload_n hx hb dX5_lock_189 rfl (lv_at hl 9 rfl) ?_
                refine lv_icmp_lt (tgt := 197) hx hb dX5_lock_190 (by decide) (fun c_190 => ?_) (fun c_190 => ?_)
                · refine lv_iconst (v := 0) hx hb dX5_lock_197 (by decide) ?_
                  refine lv_istore (lv' := [(5, .int 0), (4, .int lst), (9, .int 0), (8, .int 1), (7, .int (nI i)), (6, .int mn), (0, .ref (a 0)), (1, .int (nI k)), (2, .int x2), (3, .int x3)]) hx hb dX5_lock_198 hl (by decide) rfl (fun ls hl => ?_)
                  refine lv_aload_n hx hb dX5_lock_200 rfl (lv_at hl 6 rfl) ?_
                  refine va_get (D := G) (ci := 5) (v := .ref (a 13)) (C := RX5) (T := TX5) (N := 17) hx hb hts hin5 hown hK hP 0 rfl rfl 15 (by decide) fl_47 (fun _ h9 => h9) rfl dX5_lock_201 ?_
                  refine lv_iload hx hb dX5_lock_204 (lv_at hl 4 rfl) ?_
                  refine fw_iald (j := i) (f := lb1) hx hb hK hP 13 1 rfl rfl (by omega) (by decide) dX5_lock_206 ?_
                  refine lv_iload_n hx hb dX5_lock_207 rfl (lv_at hl 7 rfl) ?_
                  refine lv_icmp_ne (tgt := 216) hx hb dX5_lock_208 (by decide) (fun c_208 => ?_) (fun c_208 => ?_)
                  · refine lv_iload hx hb dX5_lock_216 (lv_at hl 5 rfl) ?_
                    refine lv_istore (lv' := [(6, .int mn), (5, .int 0), (4, .int lst), (9, .int 0), (8, .int 1), (7, .int (nI i)), (0, .ref (a 0)), (1, .int (nI k)), (2, .int x2), (3, .int x3)]) hx hb dX5_lock_218 hl (by decide) rfl (fun ls hl => ?_)
                    refine lv_iinc (v := nI (i + 1)) (lv' := [(7, .int (nI (i + 1))), (6, .int mn), (5, .int 0), (4, .int lst), (9, .int 0), (8, .int 1), (0, .ref (a 0)), (1, .int (nI k)), (2, .int x2), (3, .int x3)]) hx hb dX5_lock_220 hl (k := 5) rfl (fw_inc _) (by decide) rfl (fun ls hl => ?_)
                    refine lv_goto (tgt := 60) hx hb dX5_lock_223 (by decide) ?_
                    exact ih_60 (i + 1) lst false mn _ _ _ (by omega) (by omega) (hm.elim Or.inl (fun ⟨j, hj, e⟩ => Or.inr ⟨j, by omega, e⟩)) (by rw [fw_itS, ← hacc]; simp [mx_lkW, ecl, eq_true c_77, eq_true c_98, c_174, c_190, c_208]) hP hD hS (lv_sub hl [0, 1, 2, 3, 6, 7, 8, 9] rfl)
                  · refine lv_iload hx hb dX5_lock_211 (lv_at hl 4 rfl) ?_
                    refine lv_goto (tgt := 218) hx hb dX5_lock_213 (by decide) ?_
                    refine lv_istore (lv' := [(6, .int (nI i)), (5, .int 0), (4, .int lst), (9, .int 0), (8, .int 1), (7, .int (nI i)), (0, .ref (a 0)), (1, .int (nI k)), (2, .int x2), (3, .int x3)]) hx hb dX5_lock_218 hl (by decide) rfl (fun ls hl => ?_)
                    refine lv_iinc (v := nI (i + 1)) (lv' := [(7, .int (nI (i + 1))), (6, .int (nI i)), (5, .int 0), (4, .int lst), (9, .int 0), (8, .int 1), (0, .ref (a 0)), (1, .int (nI k)), (2, .int x2), (3, .int x3)]) hx hb dX5_lock_220 hl (k := 5) rfl (fw_inc _) (by decide) rfl (fun ls hl => ?_)
                    refine lv_goto (tgt := 60) hx hb dX5_lock_223 (by decide) ?_
                    exact ih_60 (i + 1) lst false (nI i) _ _ _ (by omega) (by omega) (Or.inr ⟨i, by omega, rfl⟩) (by rw [fw_itS, ← hacc]; simp [mx_lkW, ecl, eq_true c_77, eq_true c_98, c_174, c_190, eq_true c_208]) hP hD hS (lv_sub hl [0, 1, 2, 3, 6, 7, 8, 9] rfl)
                · refine lv_iconst (v := 1) hx hb dX5_lock_193 (by decide) ?_
                  refine lv_goto (tgt := 198) hx hb dX5_lock_194 (by decide) ?_
                  refine lv_istore (lv' := [(5, .int 1), (4, .int lst), (9, .int 0), (8, .int 1), (7, .int (nI i)), (6, .int mn), (0, .ref (a 0)), (1, .int (nI k)), (2, .int x2), (3, .int x3)]) hx hb dX5_lock_198 hl (by decide) rfl (fun ls hl => ?_)
                  refine lv_aload_n hx hb dX5_lock_200 rfl (lv_at hl 6 rfl) ?_
                  refine va_get (D := G) (ci := 5) (v := .ref (a 13)) (C := RX5) (T := TX5) (N := 17) hx hb hts hin5 hown hK hP 0 rfl rfl 15 (by decide) fl_47 (fun _ h9 => h9) rfl dX5_lock_201 ?_
                  refine lv_iload hx hb dX5_lock_204 (lv_at hl 4 rfl) ?_
                  refine fw_iald (j := i) (f := lb1) hx hb hK hP 13 1 rfl rfl (by omega) (by decide) dX5_lock_206 ?_
                  refine lv_iload_n hx hb dX5_lock_207 rfl (lv_at hl 7 rfl) ?_
                  refine lv_icmp_ne (tgt := 216) hx hb dX5_lock_208 (by decide) (fun c_208 => ?_) (fun c_208 => ?_)
                  · refine lv_iload hx hb dX5_lock_216 (lv_at hl 5 rfl) ?_
                    refine lv_istore (lv' := [(6, .int mn), (5, .int 1), (4, .int lst), (9, .int 0), (8, .int 1), (7, .int (nI i)), (0, .ref (a 0)), (1, .int (nI k)), (2, .int x2), (3, .int x3)]) hx hb dX5_lock_218 hl (by decide) rfl (fun ls hl => ?_)
                    refine lv_iinc (v := nI (i + 1)) (lv' := [(7, .int (nI (i + 1))), (6, .int mn), (5, .int 1), (4, .int lst), (9, .int 0), (8, .int 1), (0, .ref (a 0)), (1, .int (nI k)), (2, .int x2), (3, .int x3)]) hx hb dX5_lock_220 hl (k := 5) rfl (fw_inc _) (by decide) rfl (fun ls hl => ?_)
                    refine lv_goto (tgt := 60) hx hb dX5_lock_223 (by decide) ?_
                    exact ih_60 (i + 1) lst true mn _ _ _ (by omega) (by omega) (hm.elim Or.inl (fun ⟨j, hj, e⟩ => Or.inr ⟨j, by omega, e⟩)) (by rw [fw_itS, ← hacc]; simp [mx_lkW, ecl, eq_true c_77, eq_true c_98, c_174, c_190, c_208]) hP hD hS (lv_sub hl [0, 1, 2, 3, 6, 7, 8, 9] rfl)
                  · refine lv_iload hx hb dX5_lock_211 (lv_at hl 4 rfl) ?_
                    refine lv_goto (tgt := 218) hx hb dX5_lock_213 (by decide) ?_
                    refine lv_istore (lv' := [(6, .int (nI i)), (5, .int 1), (4, .int lst), (9, .int 0), (8, .int 1), (7, .int (nI i)), (0, .ref (a 0)), (1, .int (nI k)), (2, .int x2), (3, .int x3)]) hx hb dX5_lock_218 hl (by decide) rfl (fun ls hl => ?_)
                    refine lv_iinc (v := nI (i + 1)) (lv' := [(7, .int (nI (i + 1))), (6, .int (nI i)), (5, .int 1), (4, .int lst), (9, .int 0), (8, .int 1), (0, .ref (a 0)), (1, .int (nI k)), (2, .int x2), (3, .int x3)]) hx hb dX5_lock_220 hl (k := 5) rfl (fw_inc _) (by decide) rfl (fun ls hl => ?_)
                    refine lv_goto (tgt := 60) hx hb dX5_lock_223 (by decide) ?_
                    exact ih_60 (i + 1) lst true (nI i) _ _ _ (by omega) (by omega) (Or.inr ⟨i, by omega, rfl⟩) (by rw [fw_itS, ← hacc]; simp [mx_lkW, ecl, eq_true c_77, eq_true c_98, c_174, c_190, eq_true c_208]) hP hD hS (lv_sub hl [0, 1, 2, 3, 6, 7, 8, 9] rfl)
    exact lp_60 _ 0 0 false (-1) _ _ _ (Nat.lt_succ_self _) (by omega) (Or.inl rfl) (rfl) hP hD hS (lv_sub hl [0, 1, 2, 3, 4, 5, 6, 7] rfl)
  · refine lv_iconst (v := (-1)) hx hb dX5_lock_42 (by decide) ?_
    exact hri _ rfl (-1) _ _ _ _ _ (rfl) (by rw [ejc, if_pos c_39]; exact ⟨rfl, rfl⟩) hP hD hS dX5_lock_43
