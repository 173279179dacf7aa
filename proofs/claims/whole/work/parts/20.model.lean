abbrev rmX5_in : Room := { frames := 0, cells := 0, slots := 0, locals := 0 }
set_option maxHeartbeats 4000000 in
set_option maxRecDepth 100000 in
theorem c_X5_in (l : Launch) (G : va_G) (tys : List (ClassId × FieldType)) (tc : Nat) (ws : va_W) (x1 : Int32) (x2 : Int32) (x3 : Int32)  : KC l yX5_in wsX5_in rmX5_in G tys tc [.int x1, .int x2, .int x3] ws (fun v w' => v = some (.int (fw_b (mx_in x1 x2 x3))) ∧ w' = ws) := by
  refine KC.of (cc := cX5_in) (maxL := 3) (ret := some .boolean) (by decide) rfl (Nat.le_of_ble_eq_true rfl) ?_
  intro p e s m below meth c args A Q ls hx hb hml hown hts hK hZ hA hP hD hS hl hri hrv
  have hown : s.vm.findClass RX5 = some m.cls := hown
  have hl : lv_has ls 3 [(0, .int x1), (1, .int x2), (2, .int x3)] := hl
  refine lv_iload_n hx hb dX5_in_0 rfl (lv_at hl 0 rfl) ?_
  refine lv_iload_n hx hb dX5_in_1 rfl (lv_at hl 1 rfl) ?_
  refine lv_icmp_lt (tgt := 14) hx hb dX5_in_2 (by decide) (fun c_2 => ?_) (fun c_2 => ?_)
  · refine lv_iconst (v := 0) hx hb dX5_in_14 (by decide) ?_
    exact hri _ rfl 0 _ _ _ _ _ (by decide) (⟨by simp [mx_in, fw_b, c_2], rfl⟩) hP hD hS dX5_in_15
  · refine lv_iload_n hx hb dX5_in_5 rfl (lv_at hl 0 rfl) ?_
    refine lv_iload_n hx hb dX5_in_6 rfl (lv_at hl 2 rfl) ?_
    refine lv_icmp_gt (tgt := 14) hx hb dX5_in_7 (by decide) (fun c_7 => ?_) (fun c_7 => ?_)
    · refine lv_iconst (v := 0) hx hb dX5_in_14 (by decide) ?_
      exact hri _ rfl 0 _ _ _ _ _ (by decide) (⟨by simp [mx_in, fw_b, c_2, c_7], rfl⟩) hP hD hS dX5_in_15
    · refine lv_iconst (v := 1) hx hb dX5_in_10 (by decide) ?_
      refine lv_goto (tgt := 15) hx hb dX5_in_11 (by decide) ?_
      exact hri _ rfl 1 _ _ _ _ _ (by decide) (⟨by simp [mx_in, fw_b, c_2, c_7], rfl⟩) hP hD hS dX5_in_15

abbrev rmX5_isSession : Room := { frames := 1, cells := 0, slots := 0, locals := 22 }
set_option maxHeartbeats 4000000 in
set_option maxRecDepth 100000 in
theorem c_X5_isSession (l : Launch) (G : va_G) (tys : List (ClassId × FieldType)) (tc : Nat) (ws : va_W) (x1 : Int32)  : KC l yX5_isSession wsX5_isSession rmX5_isSession G tys tc [.int x1] ws (fun v w' => v = some (.int (fw_b (px_isS x1))) ∧ w' = ws) := by
  refine KC.of (cc := cX5_isSession) (maxL := 1) (ret := some .boolean) (by decide) rfl (Nat.le_of_ble_eq_true rfl) ?_
  intro p e s m below meth c args A Q ls hx hb hml hown hts hK hZ hA hP hD hS hl hri hrv
  have hown : s.vm.findClass RX5 = some m.cls := hown
  have hl : lv_has ls 1 [(0, .int x1)] := hl
  refine lv_iload_n hx hb dX5_isSession_0 rfl (lv_at hl 0 rfl) ?_
  refine lv_iconst (v := 0) hx hb dX5_isSession_1 (by decide) ?_
  refine lv_iconst (v := 5) hx hb dX5_isSession_2 (by decide) ?_
  refine kS (As := [.int x1, .int 0, .int 5]) (rest := []) ⟨hx, hb, hml, hown, hts⟩ (c_X5_in l G tys tc ws x1 0 5) (va_cwS 3 hts gX5_isSession_X5_in rfl rfl rfl (by decide +kernel) ⟨by decide, by decide⟩) hK hZ hA hP hD hS rfl hl.1 rfl (Nat.le_of_ble_eq_true rfl) dX5_isSession_3 ⟨Nat.zero_le _, Nat.zero_le _⟩ (fun v w' H locs hp hP hD hS => ?_)
  obtain ⟨rfl, hw9⟩ := hp
  rw [hw9] at hP hD
  rw [mx_inS]
  refine W.eq (g2 := F0 m 6 ls [.int (fw_b (px_isS x1))]) rfl ?_
  exact hri _ rfl (fw_b (px_isS x1)) _ _ _ _ _ (fw_bn _) (⟨rfl, rfl⟩) hP hD hS dX5_isSession_6

abbrev rmX5_isRunning : Room := { frames := 1, cells := 0, slots := 0, locals := 22 }
set_option maxHeartbeats 4000000 in
set_option maxRecDepth 100000 in
theorem c_X5_isRunning (l : Launch) (G : va_G) (cB cI cZ : ClassId) (tc : Nat) (a : Nat → Nat) (ag ow ru hd kd tb md lv dr nb bg lr lb lh : Nat → Int32) (g : Nat) (t0 : Nat) (q : Nat) (x1 : Int32) (hg : g < 4000) : KC l yX5_isRunning wsX5_isRunning rmX5_isRunning G [(cB, .byte), (cI, .int), (cZ, .boolean)] tc [.ref (a 0), .int x1] (wm a cB cI cZ ag (nI g) ow ru hd kd tb md lv dr nb bg (nI t0) (nI q) lr lb lh) (fun v w' => v = some (.int (fw_b (mx_run g ru x1))) ∧ w' = (wm a cB cI cZ ag (nI g) ow ru hd kd tb md lv dr nb bg (nI t0) (nI q) lr lb lh)) := by
  refine KC.of (cc := cX5_isRunning) (maxL := 2) (ret := some .boolean) (by decide) rfl (Nat.le_of_ble_eq_true rfl) ?_
  intro p e s m below meth c args A Q ls hx hb hml hown hts hK hZ hA hP hD hS hl hri hrv
  have hown : s.vm.findClass RX5 = some m.cls := hown
  have hl : lv_has ls 2 [(0, .ref (a 0)), (1, .int x1)] := hl
  have fl_16 := hts (.fieldLink RX5 16 "LockDeskModel" "runs" "[Z") (by decide +kernel)
  have fl_57 := hts (.fieldLink RX5 57 "LockDeskModel" "given" "I") (by decide +kernel)
  have hin5 : ∀ w ∈ wsX50, w ∈ wsX5_isRunning := by decide +kernel
  refine lv_iload_n hx hb dX5_isRunning_0 rfl (lv_at hl 1 rfl) ?_
  refine lv_iconst (v := 1) hx hb dX5_isRunning_1 (by decide) ?_
  refine lv_aload_n hx hb dX5_isRunning_2 rfl (lv_at hl 0 rfl) ?_
  refine va_get (D := G) (ci := 5) (v := .int (nI g)) (C := RX5) (T := TX5) (N := 17) hx hb hts hin5 hown hK hP 0 rfl rfl 1 (by decide) fl_57 (fun _ h9 => h9) rfl dX5_isRunning_3 ?_
  refine kS (As := [.int x1, .int 1, .int (nI g)]) (rest := []) ⟨hx, hb, hml, hown, hts⟩ (c_X5_in l G [(cB, .byte), (cI, .int), (cZ, .boolean)] tc (wm a cB cI cZ ag (nI g) ow ru hd kd tb md lv dr nb bg (nI t0) (nI q) lr lb lh) x1 1 (nI g)) (va_cwS 3 hts gX5_isRunning_X5_in rfl rfl rfl (by decide +kernel) ⟨by decide, by decide⟩) hK hZ hA hP hD hS rfl hl.1 rfl (Nat.le_of_ble_eq_true rfl) dX5_isRunning_6 ⟨Nat.zero_le _, Nat.zero_le _⟩ (fun v w' H locs hp hP hD hS => ?_)
  obtain ⟨rfl, rfl⟩ := hp
  have hP : va_P G vwCl (wm a cB cI cZ ag (nI g) ow ru hd kd tb md lv dr nb bg (nI t0) (nI q) lr lb lh) H := hP
  have hD : va_D A (wm a cB cI cZ ag (nI g) ow ru hd kd tb md lv dr nb bg (nI t0) (nI q) lr lb lh) := hD
  refine W.eq (g2 := F0 m 9 ls [.int (fw_b (px_was g x1))]) rfl ?_
  refine lv_if_eq (tgt := 25) hx hb dX5_isRunning_9 (by decide) (fun c_9 => ?_) (fun c_9 => ?_)
  · have c_9 := fw_b0.mp c_9
    refine lv_iconst (v := 0) hx hb dX5_isRunning_25 (by decide) ?_
    exact hri _ rfl 0 _ _ _ _ _ (by decide) (⟨by simp [mx_run, fw_b, c_9], rfl⟩) hP hD hS dX5_isRunning_26
  · have c_9 := fw_b1.mp c_9
    obtain ⟨k, hk1, hk2, rfl⟩ := px_was_of (by omega) c_9
    have cl1 : (nI k).toNatClampNeg = k := nI_clamp (by omega)
    refine lv_aload_n hx hb dX5_isRunning_12 rfl (lv_at hl 0 rfl) ?_
    refine va_get (D := G) (ci := 5) (v := .ref (a 3)) (C := RX5) (T := TX5) (N := 17) hx hb hts hin5 hown hK hP 0 rfl rfl 3 (by decide) fl_16 (fun _ h9 => h9) rfl dX5_isRunning_13 ?_
    refine lv_iload_n hx hb dX5_isRunning_16 rfl (lv_at hl 1 rfl) ?_
    refine fw_zald (j := k) (f := ru) hx hb hK hP 3 2 rfl rfl (by omega) (by decide) dX5_isRunning_17 ?_
    refine lv_if_eq (tgt := 25) hx hb dX5_isRunning_18 (by decide) (fun c_18 => ?_) (fun c_18 => ?_)
    · refine lv_iconst (v := 0) hx hb dX5_isRunning_25 (by decide) ?_
      exact hri _ rfl 0 _ _ _ _ _ (by decide) (⟨by simp [mx_run, fw_b, c_9, c_18, cl1], rfl⟩) hP hD hS dX5_isRunning_26
    · refine lv_iconst (v := 1) hx hb dX5_isRunning_21 (by decide) ?_
      refine lv_goto (tgt := 26) hx hb dX5_isRunning_22 (by decide) ?_
      exact hri _ rfl 1 _ _ _ _ _ (by decide) (⟨by simp [mx_run, fw_b, c_9, c_18, cl1], rfl⟩) hP hD hS dX5_isRunning_26

abbrev rmX5_conflicts : Room := { frames := 0, cells := 0, slots := 0, locals := 0 }
set_option maxHeartbeats 4000000 in
set_option maxRecDepth 100000 in
theorem c_X5_conflicts (l : Launch) (G : va_G) (cB cI cZ : ClassId) (tc : Nat) (a : Nat → Nat) (ag ow ru hd kd tb md lv dr nb bg lr lb lh : Nat → Int32) (g : Nat) (t0 : Nat) (q : Nat) (k : Nat) (b : Nat) (hk9 : k < 9) (hb9 : b < 9) (hag : ∀ j, j < 9 → ag j = fw_agI j) : KC l yX5_conflicts wsX5_conflicts rmX5_conflicts G [(cB, .byte), (cI, .int), (cZ, .boolean)] tc [.ref (a 0), .int (nI k), .int (nI b)] (wm a cB cI cZ ag (nI g) ow ru hd kd tb md lv dr nb bg (nI t0) (nI q) lr lb lh) (fun v w' => v = some (.int (fw_b (px_cf k (nI b)))) ∧ w' = (wm a cB cI cZ ag (nI g) ow ru hd kd tb md lv dr nb bg (nI t0) (nI q) lr lb lh)) := by
  refine KC.of (cc := cX5_conflicts) (maxL := 3) (ret := some .boolean) (by decide) rfl (Nat.le_of_ble_eq_true rfl) ?_
  intro p e s m below meth c args A Q ls hx hb hml hown hts hK hZ hA hP hD hS hl hri hrv
  have hown : s.vm.findClass RX5 = some m.cls := hown
  have hl : lv_has ls 3 [(0, .ref (a 0)), (1, .int (nI k)), (2, .int (nI b))] := hl
  have fl_7 := hts (.fieldLink RX5 7 "LockDeskModel" "against" "[I") (by decide +kernel)
  have hin5 : ∀ w ∈ wsX50, w ∈ wsX5_conflicts := by decide +kernel
  refine lv_aload_n hx hb dX5_conflicts_0 rfl (lv_at hl 0 rfl) ?_
  refine va_get (D := G) (ci := 5) (v := .ref (a 1)) (C := RX5) (T := TX5) (N := 17) hx hb hts hin5 hown hK hP 0 rfl rfl 0 (by decide) fl_7 (fun _ h9 => h9) rfl dX5_conflicts_1 ?_
  refine lv_iload_n hx hb dX5_conflicts_4 rfl (lv_at hl 1 rfl) ?_
  refine fw_iald (j := k) (f := ag) hx hb hK hP 1 1 rfl rfl (by omega) (by decide) dX5_conflicts_5 ?_
  refine lv_iload_n hx hb dX5_conflicts_6 rfl (lv_at hl 2 rfl) ?_
  refine lv_iconst (v := 1) hx hb dX5_conflicts_7 (by decide) ?_
  refine lv_isub hx hb dX5_conflicts_8 ?_
  refine lv_ishr hx hb dX5_conflicts_9 ?_
  refine lv_iconst (v := 1) hx hb dX5_conflicts_10 (by decide) ?_
  refine lv_iand hx hb dX5_conflicts_11 ?_
  refine lv_iconst (v := 1) hx hb dX5_conflicts_12 (by decide) ?_
  refine lv_icmp_ne (tgt := 20) hx hb dX5_conflicts_13 (by decide) (fun c_13 => ?_) (fun c_13 => ?_)
  · refine lv_iconst (v := 0) hx hb dX5_conflicts_20 (by decide) ?_
    exact hri _ rfl 0 _ _ _ _ _ (by decide) (⟨by rw [← mx_cfE k hk9 b hb9, ← hag k hk9]; simp [fw_b, c_13], rfl⟩) hP hD hS dX5_conflicts_21
  · refine lv_iconst (v := 1) hx hb dX5_conflicts_16 (by decide) ?_
    refine lv_goto (tgt := 21) hx hb dX5_conflicts_17 (by decide) ?_
    exact hri _ rfl 1 _ _ _ _ _ (by decide) (⟨by rw [← mx_cfE k hk9 b hb9, ← hag k hk9]; simp [fw_b, c_13], rfl⟩) hP hD hS dX5_conflicts_21

abbrev rmX5_holdsAgainst : Room := { frames := 1, cells := 0, slots := 0, locals := 22 }
set_option maxHeartbeats 4000000 in
set_option maxRecDepth 100000 in
theorem c_X5_holdsAgainst (l : Launch) (G : va_G) (cB cI cZ : ClassId) (tc : Nat) (a : Nat → Nat) (ag ow ru hd kd tb md lv dr nb bg lr lb lh : Nat → Int32) (g : Nat) (t0 : Nat) (q : Nat) (t : Nat) (y : Nat) (k : Nat) (ht6 : t < 6) (hy8 : y < 8) (hk9 : k < 9) (hag : ∀ j, j < 9 → ag j = fw_agI j) : KC l yX5_holdsAgainst wsX5_holdsAgainst rmX5_holdsAgainst G [(cB, .byte), (cI, .int), (cZ, .boolean)] tc [.ref (a 0), .int (nI t), .int (nI y), .int (nI k)] (wm a cB cI cZ ag (nI g) ow ru hd kd tb md lv dr nb bg (nI t0) (nI q) lr lb lh) (fun v w' => v = some (.int (fw_b (mx_ha hd t y k))) ∧ w' = (wm a cB cI cZ ag (nI g) ow ru hd kd tb md lv dr nb bg (nI t0) (nI q) lr lb lh)) := by
  refine KC.of (cc := cX5_holdsAgainst) (maxL := 6) (ret := some .boolean) (by decide) rfl (Nat.le_of_ble_eq_true rfl) ?_
  intro p e s m below meth c args A Q ls hx hb hml hown hts hK hZ hA hP hD hS hl hri hrv
  have hown : s.vm.findClass RX5 = some m.cls := hown
  have hl : lv_has ls 6 [(0, .ref (a 0)), (1, .int (nI t)), (2, .int (nI y)), (3, .int (nI k))] := hl
  have fl_20 := hts (.fieldLink RX5 20 "LockDeskModel" "held" "[I") (by decide +kernel)
  have hin5 : ∀ w ∈ wsX50, w ∈ wsX5_holdsAgainst := by decide +kernel
  refine lv_iconst (v := 0) hx hb dX5_holdsAgainst_0 (by decide) ?_
  refine lv_istore (lv' := [(4, .int 0), (0, .ref (a 0)), (1, .int (nI t)), (2, .int (nI y)), (3, .int (nI k))]) hx hb dX5_holdsAgainst_1 hl (by decide) rfl (fun ls hl => ?_)
  refine lv_iconst (v := 1) hx hb dX5_holdsAgainst_3 (by decide) ?_
  refine lv_istore (lv' := [(5, .int 1), (4, .int 0), (0, .ref (a 0)), (1, .int (nI t)), (2, .int (nI y)), (3, .int (nI k))]) hx hb dX5_holdsAgainst_4 hl (by decide) rfl (fun ls hl => ?_)
  have lp_6 : ∀ (nf : Nat) (i : Nat) (ab : Bool) (H : Heap) (locs : List Loc) (ls : Array Slot), 8 - i < nf → (i ≤ 8) → (ab = px_any (mx_haP hd t y k) i) → va_P G vwCl (wm a cB cI cZ ag (nI g) ow ru hd kd tb md lv dr nb bg (nI t0) (nI q) lr lb lh) H → va_D A (wm a cB cI cZ ag (nI g) ow ru hd kd tb md lv dr nb bg (nI t0) (nI q) lr lb lh) → va_S A s.heap H locs → lv_has ls 6 [(5, .int (nI (i + 1))), (4, .int (fw_b ab)), (0, .ref (a 0)), (1, .int (nI t)), (2, .int (nI y)), (3, .int (nI k))] → W p l e rmX5_holdsAgainst s m args below meth c H locs 0 0 Q (F0 m 6 ls []) := by
    intro nf
    induction nf with
    | zero => intro i ab H locs ls h0; exact absurd h0 (Nat.not_lt_zero _)
    | succ nf_6 ih_6 =>
      intro i ab H locs ls hn_6 hi hab hP hD hS hl
      refine lv_iload hx hb dX5_holdsAgainst_6 (lv_at hl 0 rfl) ?_
      refine lv_bipush (v := 9) hx hb dX5_holdsAgainst_8 (by decide) ?_
      refine lv_icmp_ge (tgt := 61) hx hb dX5_holdsAgainst_10 (by decide) (fun c_10 => ?_) (fun c_10 => ?_)
      · have hE : i = 8 := by
          have := fw_nle (a := 9) c_10 (by omega) (by omega)
          omega
        refine lv_iload hx hb dX5_holdsAgainst_61 (lv_at hl 1 rfl) ?_
        exact hri _ rfl (fw_b ab) _ _ _ _ _ (fw_bn _) (⟨by rw [hab, mx_ha, hE], rfl⟩) hP hD hS dX5_holdsAgainst_63
      · have hL : i < 8 := by
          have := fw_nlt (a := 9) c_10 (by omega) (by omega)
          omega
        refine lv_iload hx hb dX5_holdsAgainst_13 (lv_at hl 1 rfl) ?_
        refine lv_if_ne (tgt := 48) hx hb dX5_holdsAgainst_15 (by decide) (fun c_15 => ?_) (fun c_15 => ?_)
        · have c_15 := fw_b1.mp c_15
          refine lv_iconst (v := 1) hx hb dX5_holdsAgainst_48 (by decide) ?_
          refine lv_goto (tgt := 53) hx hb dX5_holdsAgainst_49 (by decide) ?_
          refine lv_istore (lv' := [(4, .int 1), (5, .int (nI (i + 1))), (0, .ref (a 0)), (1, .int (nI t)), (2, .int (nI y)), (3, .int (nI k))]) hx hb dX5_holdsAgainst_53 hl (by decide) rfl (fun ls hl => ?_)
          refine lv_iinc (v := nI ((i + 1) + 1)) (lv' := [(5, .int (nI ((i + 1) + 1))), (4, .int 1), (0, .ref (a 0)), (1, .int (nI t)), (2, .int (nI y)), (3, .int (nI k))]) hx hb dX5_holdsAgainst_55 hl (k := 1) rfl (fw_inc _) (by decide) rfl (fun ls hl => ?_)
          refine lv_goto (tgt := 6) hx hb dX5_holdsAgainst_58 (by decide) ?_
          exact ih_6 (i + 1) true _ _ _ (by omega) (by omega) (by simp [px_any, ← hab, mx_haP, c_15]) hP hD hS (lv_sub hl [0, 1, 2, 3, 4, 5] rfl)
        · have c_15 := fw_b0.mp c_15
          refine lv_aload_n hx hb dX5_holdsAgainst_18 rfl (lv_at hl 2 rfl) ?_
          refine va_get (D := G) (ci := 5) (v := .ref (a 4)) (C := RX5) (T := TX5) (N := 17) hx hb hts hin5 hown hK hP 0 rfl rfl 4 (by decide) fl_20 (fun _ h9 => h9) rfl dX5_holdsAgainst_19 ?_
          refine lv_bipush (v := 72) hx hb dX5_holdsAgainst_22 (by decide) ?_
          refine lv_iload_n hx hb dX5_holdsAgainst_24 rfl (lv_at hl 3 rfl) ?_
          refine lv_imul hx hb dX5_holdsAgainst_25 ?_
          refine lv_bipush (v := 9) hx hb dX5_holdsAgainst_26 (by decide) ?_
          refine lv_iload_n hx hb dX5_holdsAgainst_28 rfl (lv_at hl 4 rfl) ?_
          refine lv_imul hx hb dX5_holdsAgainst_29 ?_
          refine lv_iadd hx hb dX5_holdsAgainst_30 ?_
          refine lv_iload hx hb dX5_holdsAgainst_31 (lv_at hl 0 rfl) ?_
          refine lv_iadd hx hb dX5_holdsAgainst_33 ?_
          rw [mx_ix]
          refine fw_iald (j := (72 * t + 9 * y + (i + 1))) (f := hd) hx hb hK hP 4 1 rfl rfl (by omega) (by decide) dX5_holdsAgainst_34 ?_
          refine lv_if_le (tgt := 52) hx hb dX5_holdsAgainst_35 (by decide) (fun c_35 => ?_) (fun c_35 => ?_)
          · refine lv_iconst (v := 0) hx hb dX5_holdsAgainst_52 (by decide) ?_
            refine lv_istore (lv' := [(4, .int 0), (5, .int (nI (i + 1))), (0, .ref (a 0)), (1, .int (nI t)), (2, .int (nI y)), (3, .int (nI k))]) hx hb dX5_holdsAgainst_53 hl (by decide) rfl (fun ls hl => ?_)
            refine lv_iinc (v := nI ((i + 1) + 1)) (lv' := [(5, .int (nI ((i + 1) + 1))), (4, .int 0), (0, .ref (a 0)), (1, .int (nI t)), (2, .int (nI y)), (3, .int (nI k))]) hx hb dX5_holdsAgainst_55 hl (k := 1) rfl (fw_inc _) (by decide) rfl (fun ls hl => ?_)
            refine lv_goto (tgt := 6) hx hb dX5_holdsAgainst_58 (by decide) ?_
            exact ih_6 (i + 1) false _ _ _ (by omega) (by omega) (by simp [px_any, ← hab, mx_haP, c_15, c_35]) hP hD hS (lv_sub hl [0, 1, 2, 3, 4, 5] rfl)
          · refine lv_aload_n hx hb dX5_holdsAgainst_38 rfl (lv_at hl 2 rfl) ?_
            refine lv_iload_n hx hb dX5_holdsAgainst_39 rfl (lv_at hl 5 rfl) ?_
            refine lv_iload hx hb dX5_holdsAgainst_40 (lv_at hl 0 rfl) ?_
            refine kV (As := [.int (nI k), .int (nI (i + 1))]) (rest := []) ⟨hx, hb, hml, hown, hts⟩ (c_X5_conflicts l G cB cI cZ tc a ag ow ru hd kd tb md lv dr nb bg lr lb lh g t0 q k (i + 1) hk9 (by omega) hag) (cwV 2 hts gX5_holdsAgainst_X5_conflicts rfl rfl rfl (by decide +kernel) ⟨by decide, by decide⟩) hK hZ hA hP hD hS 0 5 rfl rfl rfl hl.1 rfl (Nat.le_of_ble_eq_true rfl) dX5_holdsAgainst_42 ⟨Nat.zero_le _, Nat.zero_le _⟩ (fun v w' H locs hp hP hD hS => ?_)
            obtain ⟨rfl, rfl⟩ := hp
            have hP : va_P G vwCl (wm a cB cI cZ ag (nI g) ow ru hd kd tb md lv dr nb bg (nI t0) (nI q) lr lb lh) H := hP
            have hD : va_D A (wm a cB cI cZ ag (nI g) ow ru hd kd tb md lv dr nb bg (nI t0) (nI q) lr lb lh) := hD
            refine W.eq (g2 := F0 m 45 ls [.int (fw_b (px_cf k (nI (i + 1))))]) rfl ?_
            refine lv_if_eq (tgt := 52) hx hb dX5_holdsAgainst_45 (by decide) (fun c_45 => ?_) (fun c_45 => ?_)
            · have c_45 := fw_b0.mp c_45
              refine lv_iconst (v := 0) hx hb dX5_holdsAgainst_52 (by decide) ?_
              refine lv_istore (lv' := [(4, .int 0), (5, .int (nI (i + 1))), (0, .ref (a 0)), (1, .int (nI t)), (2, .int (nI y)), (3, .int (nI k))]) hx hb dX5_holdsAgainst_53 hl (by decide) rfl (fun ls hl => ?_)
              refine lv_iinc (v := nI ((i + 1) + 1)) (lv' := [(5, .int (nI ((i + 1) + 1))), (4, .int 0), (0, .ref (a 0)), (1, .int (nI t)), (2, .int (nI y)), (3, .int (nI k))]) hx hb dX5_holdsAgainst_55 hl (k := 1) rfl (fw_inc _) (by decide) rfl (fun ls hl => ?_)
              refine lv_goto (tgt := 6) hx hb dX5_holdsAgainst_58 (by decide) ?_
              exact ih_6 (i + 1) false _ _ _ (by omega) (by omega) (by simp [px_any, ← hab, mx_haP, c_15, c_35, c_45]) hP hD hS (lv_sub hl [0, 1, 2, 3, 4, 5] rfl)
            · have c_45 := fw_b1.mp c_45
              refine lv_iconst (v := 1) hx hb dX5_holdsAgainst_48 (by decide) ?_
              refine lv_goto (tgt := 53) hx hb dX5_holdsAgainst_49 (by decide) ?_
              refine lv_istore (lv' := [(4, .int 1), (5, .int (nI (i + 1))), (0, .ref (a 0)), (1, .int (nI t)), (2, .int (nI y)), (3, .int (nI k))]) hx hb dX5_holdsAgainst_53 hl (by decide) rfl (fun ls hl => ?_)
              refine lv_iinc (v := nI ((i + 1) + 1)) (lv' := [(5, .int (nI ((i + 1) + 1))), (4, .int 1), (0, .ref (a 0)), (1, .int (nI t)), (2, .int (nI y)), (3, .int (nI k))]) hx hb dX5_holdsAgainst_55 hl (k := 1) rfl (fw_inc _) (by decide) rfl (fun ls hl => ?_)
              refine lv_goto (tgt := 6) hx hb dX5_holdsAgainst_58 (by decide) ?_
              exact ih_6 (i + 1) true _ _ _ (by omega) (by omega) (by simp [px_any, ← hab, mx_haP, c_15, c_35, c_45]) hP hD hS (lv_sub hl [0, 1, 2, 3, 4, 5] rfl)
  exact lp_6 _ 0 false _ _ _ (Nat.lt_succ_self _) (by omega) (rfl) hP hD hS (lv_sub hl [0, 1, 2, 3, 4, 5] rfl)

abbrev rmX5_inTheWay : Room := { frames := 2, cells := 0, slots := 0, locals := 47 }
set_option maxHeartbeats 4000000 in
set_option maxRecDepth 100000 in
theorem c_X5_inTheWay (l : Launch) (G : va_G) (cB cI cZ : ClassId) (tc : Nat) (a : Nat → Nat) (ag ow ru hd kd tb md lv dr nb bg lr lb lh : Nat → Int32) (g : Nat) (t0 : Nat) (q : Nat) (x : Nat) (y : Nat) (k : Nat) (x4 : Int32) (hx6 : x < 6) (hy8 : y < 8) (hk9 : k < 9) (hI : mx_I g t0 ag ow tb md lv dr nb bg) : KC l yX5_inTheWay wsX5_inTheWay rmX5_inTheWay G [(cB, .byte), (cI, .int), (cZ, .boolean)] tc [.ref (a 0), .int (nI x), .int (nI y), .int (nI k), .int x4] (wm a cB cI cZ ag (nI g) ow ru hd kd tb md lv dr nb bg (nI t0) (nI q) lr lb lh) (fun v w' => v = some (.int (mx_way hd kd tb md dr bg x y k x4)) ∧ w' = (wm a cB cI cZ ag (nI g) ow ru hd kd tb md lv dr nb bg (nI t0) (nI q) lr lb lh)) := by
  refine KC.of (cc := cX5_inTheWay) (maxL := 8) (ret := some .int) (by decide) rfl (Nat.le_of_ble_eq_true rfl) ?_
  intro p e s m below meth c args A Q ls hx hb hml hown hts hK hZ hA hP hD hS hl hri hrv
  have hown : s.vm.findClass RX5 = some m.cls := hown
  have hl : lv_has ls 8 [(0, .ref (a 0)), (1, .int (nI x)), (2, .int (nI y)), (3, .int (nI k)), (4, .int x4)] := hl
  have fl_23 := hts (.fieldLink RX5 23 "LockDeskModel" "kind" "[I") (by decide +kernel)
  have fl_26 := hts (.fieldLink RX5 26 "LockDeskModel" "table" "[I") (by decide +kernel)
  have fl_29 := hts (.fieldLink RX5 29 "LockDeskModel" "mode" "[I") (by decide +kernel)
  have fl_35 := hts (.fieldLink RX5 35 "LockDeskModel" "dropped" "[Z") (by decide +kernel)
  have fl_41 := hts (.fieldLink RX5 41 "LockDeskModel" "began" "[I") (by decide +kernel)
  have hin5 : ∀ w ∈ wsX50, w ∈ wsX5_inTheWay := by decide +kernel
  have hI0 := hI
  obtain ⟨hg, ht0, hag, how, htb, hmd, hdr, hlv, hnb, hbg⟩ := hI
  refine lv_iconst (v := 0) hx hb dX5_inTheWay_0 (by decide) ?_
  refine lv_istore (lv' := [(5, .int 0), (0, .ref (a 0)), (1, .int (nI x)), (2, .int (nI y)), (3, .int (nI k)), (4, .int x4)]) hx hb dX5_inTheWay_1 hl (by decide) rfl (fun ls hl => ?_)
  refine lv_iconst (v := 0) hx hb dX5_inTheWay_3 (by decide) ?_
  refine lv_istore (lv' := [(6, .int 0), (5, .int 0), (0, .ref (a 0)), (1, .int (nI x)), (2, .int (nI y)), (3, .int (nI k)), (4, .int x4)]) hx hb dX5_inTheWay_4 hl (by decide) rfl (fun ls hl => ?_)
  have lp_6 : ∀ (nf : Nat) (t : Nat) (acc : Int32) (H : Heap) (locs : List Loc) (ls : Array Slot), 6 - t < nf → (t ≤ 6) → (acc = fw_it (mx_wayS hd kd tb md dr bg x y k x4) t 0) → va_P G vwCl (wm a cB cI cZ ag (nI g) ow ru hd kd tb md lv dr nb bg (nI t0) (nI q) lr lb lh) H → va_D A (wm a cB cI cZ ag (nI g) ow ru hd kd tb md lv dr nb bg (nI t0) (nI q) lr lb lh) → va_S A s.heap H locs → lv_has ls 8 [(6, .int (nI t)), (5, .int acc), (0, .ref (a 0)), (1, .int (nI x)), (2, .int (nI y)), (3, .int (nI k)), (4, .int x4)] → W p l e rmX5_inTheWay s m args below meth c H locs 0 0 Q (F0 m 6 ls []) := by
    intro nf
    induction nf with
    | zero => intro t acc H locs ls h0; exact absurd h0 (Nat.not_lt_zero _)
    | succ nf_6 ih_6 =>
      intro t acc H locs ls hn_6 ht hacc hP hD hS hl
      refine lv_iload hx hb dX5_inTheWay_6 (lv_at hl 0 rfl) ?_
      refine lv_bipush (v := 6) hx hb dX5_inTheWay_8 (by decide) ?_
      refine lv_icmp_ge (tgt := 120) hx hb dX5_inTheWay_10 (by decide) (fun c_10 => ?_) (fun c_10 => ?_)
      · have hE : t = 6 := by
          have := fw_nle (a := 6) c_10 (by omega) (by omega)
          omega
        refine lv_iload hx hb dX5_inTheWay_120 (lv_at hl 1 rfl) ?_
        exact hri _ rfl acc _ _ _ _ _ (rfl) (⟨by rw [hacc, mx_way, hE], rfl⟩) hP hD hS dX5_inTheWay_122
      · have hL : t < 6 := by
          have := fw_nlt (a := 6) c_10 (by omega) (by omega)
          omega
        refine lv_aload_n hx hb dX5_inTheWay_13 rfl (lv_at hl 2 rfl) ?_
        refine va_get (D := G) (ci := 5) (v := .ref (a 5)) (C := RX5) (T := TX5) (N := 17) hx hb hts hin5 hown hK hP 0 rfl rfl 5 (by decide) fl_23 (fun _ h9 => h9) rfl dX5_inTheWay_14 ?_
        refine lv_iload hx hb dX5_inTheWay_17 (lv_at hl 0 rfl) ?_
        refine fw_iald (j := t) (f := kd) hx hb hK hP 5 1 rfl rfl (by omega) (by decide) dX5_inTheWay_19 ?_
        refine lv_iconst (v := 1) hx hb dX5_inTheWay_20 (by decide) ?_
        refine lv_icmp_ne (tgt := 76) hx hb dX5_inTheWay_21 (by decide) (fun c_21 => ?_) (fun c_21 => ?_)
        · refine lv_iconst (v := 0) hx hb dX5_inTheWay_76 (by decide) ?_
          refine lv_istore (lv' := [(7, .int 0), (6, .int (nI t)), (5, .int acc), (0, .ref (a 0)), (1, .int (nI x)), (2, .int (nI y)), (3, .int (nI k)), (4, .int x4)]) hx hb dX5_inTheWay_77 hl (by decide) rfl (fun ls hl => ?_)
          refine lv_iload hx hb dX5_inTheWay_79 (lv_at hl 2 rfl) ?_
          refine lv_iload hx hb dX5_inTheWay_81 (lv_at hl 1 rfl) ?_
          refine lv_iload_n hx hb dX5_inTheWay_83 rfl (lv_at hl 4 rfl) ?_
          refine lv_icmp_eq (tgt := 110) hx hb dX5_inTheWay_84 (by decide) (fun c_84 => ?_) (fun c_84 => ?_)
          · have c_84 : t = x := (nI_eq (by omega) (by omega)).mp c_84
            refine lv_iconst (v := 0) hx hb dX5_inTheWay_110 (by decide) ?_
            refine lv_ior hx hb dX5_inTheWay_111 ?_
            refine lv_istore (lv' := [(5, .int (acc ||| 0)), (7, .int 0), (6, .int (nI t)), (0, .ref (a 0)), (1, .int (nI x)), (2, .int (nI y)), (3, .int (nI k)), (4, .int x4)]) hx hb dX5_inTheWay_112 hl (by decide) rfl (fun ls hl => ?_)
            refine lv_iinc (v := nI (t + 1)) (lv' := [(6, .int (nI (t + 1))), (5, .int (acc ||| 0)), (7, .int 0), (0, .ref (a 0)), (1, .int (nI x)), (2, .int (nI y)), (3, .int (nI k)), (4, .int x4)]) hx hb dX5_inTheWay_114 hl (k := 2) rfl (fw_inc _) (by decide) rfl (fun ls hl => ?_)
            refine lv_goto (tgt := 6) hx hb dX5_inTheWay_117 (by decide) ?_
            exact ih_6 (t + 1) (acc ||| 0) _ _ _ (by omega) (by omega) (by rw [fw_itS, ← hacc]; simp [mx_wayS, mx_er, c_21, c_84]) hP hD hS (lv_sub hl [0, 1, 3, 4, 5, 6, 7] rfl)
          · have c_84 : ¬ t = x := fun q => c_84 (by rw [q])
            refine lv_iload hx hb dX5_inTheWay_87 (lv_at hl 0 rfl) ?_
            refine lv_if_ne (tgt := 103) hx hb dX5_inTheWay_89 (by decide) (fun z9 => absurd z9 (by decide)) (fun _ => ?_)
            refine lv_aload_n hx hb dX5_inTheWay_92 rfl (lv_at hl 3 rfl) ?_
            refine lv_iload hx hb dX5_inTheWay_93 (lv_at hl 1 rfl) ?_
            refine lv_iload_n hx hb dX5_inTheWay_95 rfl (lv_at hl 5 rfl) ?_
            refine lv_iload_n hx hb dX5_inTheWay_96 rfl (lv_at hl 6 rfl) ?_
            refine kV (As := [.int (nI t), .int (nI y), .int (nI k)]) (rest := [.int acc]) ⟨hx, hb, hml, hown, hts⟩ (c_X5_holdsAgainst l G cB cI cZ tc a ag ow ru hd kd tb md lv dr nb bg lr lb lh g t0 q t y k hL hy8 hk9 hag) (cwV 3 hts gX5_inTheWay_X5_holdsAgainst rfl rfl rfl (by decide +kernel) ⟨by decide, by decide⟩) hK hZ hA hP hD hS 0 5 rfl rfl rfl hl.1 rfl (Nat.le_of_ble_eq_true rfl) dX5_inTheWay_97 ⟨Nat.zero_le _, Nat.zero_le _⟩ (fun v w' H locs hp hP hD hS => ?_)
            obtain ⟨rfl, rfl⟩ := hp
            have hP : va_P G vwCl (wm a cB cI cZ ag (nI g) ow ru hd kd tb md lv dr nb bg (nI t0) (nI q) lr lb lh) H := hP
            have hD : va_D A (wm a cB cI cZ ag (nI g) ow ru hd kd tb md lv dr nb bg (nI t0) (nI q) lr lb lh) := hD
            refine W.eq (g2 := F0 m 100 ls [.int (fw_b (mx_ha hd t y k)), .int acc]) rfl ?_
            refine lv_if_eq (tgt := 110) hx hb dX5_inTheWay_100 (by decide) (fun c_100 => ?_) (fun c_100 => ?_)
            · have c_100 := fw_b0.mp c_100
              refine lv_iconst (v := 0) hx hb dX5_inTheWay_110 (by decide) ?_
              refine lv_ior hx hb dX5_inTheWay_111 ?_
              refine lv_istore (lv' := [(5, .int (acc ||| 0)), (7, .int 0), (6, .int (nI t)), (0, .ref (a 0)), (1, .int (nI x)), (2, .int (nI y)), (3, .int (nI k)), (4, .int x4)]) hx hb dX5_inTheWay_112 hl (by decide) rfl (fun ls hl => ?_)
              refine lv_iinc (v := nI (t + 1)) (lv' := [(6, .int (nI (t + 1))), (5, .int (acc ||| 0)), (7, .int 0), (0, .ref (a 0)), (1, .int (nI x)), (2, .int (nI y)), (3, .int (nI k)), (4, .int x4)]) hx hb dX5_inTheWay_114 hl (k := 2) rfl (fw_inc _) (by decide) rfl (fun ls hl => ?_)
              refine lv_goto (tgt := 6) hx hb dX5_inTheWay_117 (by decide) ?_
              exact ih_6 (t + 1) (acc ||| 0) _ _ _ (by omega) (by omega) (by rw [fw_itS, ← hacc]; simp [mx_wayS, mx_er, c_21, c_84, c_100]) hP hD hS (lv_sub hl [0, 1, 3, 4, 5, 6, 7] rfl)
            · have c_100 := fw_b1.mp c_100
              refine lv_iconst (v := 1) hx hb dX5_inTheWay_103 (by decide) ?_
              refine lv_iload hx hb dX5_inTheWay_104 (lv_at hl 1 rfl) ?_
              refine lv_ishl hx hb dX5_inTheWay_106 ?_
              refine lv_goto (tgt := 111) hx hb dX5_inTheWay_107 (by decide) ?_
              refine lv_ior hx hb dX5_inTheWay_111 ?_
              refine lv_istore (lv' := [(5, .int (acc ||| (1 <<< ((nI t) &&& 31)))), (7, .int 0), (6, .int (nI t)), (0, .ref (a 0)), (1, .int (nI x)), (2, .int (nI y)), (3, .int (nI k)), (4, .int x4)]) hx hb dX5_inTheWay_112 hl (by decide) rfl (fun ls hl => ?_)
              refine lv_iinc (v := nI (t + 1)) (lv' := [(6, .int (nI (t + 1))), (5, .int (acc ||| (1 <<< ((nI t) &&& 31)))), (7, .int 0), (0, .ref (a 0)), (1, .int (nI x)), (2, .int (nI y)), (3, .int (nI k)), (4, .int x4)]) hx hb dX5_inTheWay_114 hl (k := 2) rfl (fw_inc _) (by decide) rfl (fun ls hl => ?_)
              refine lv_goto (tgt := 6) hx hb dX5_inTheWay_117 (by decide) ?_
              exact ih_6 (t + 1) (acc ||| (1 <<< ((nI t) &&& 31))) _ _ _ (by omega) (by omega) (by rw [fw_itS, ← hacc]; simp [mx_wayS, mx_er, c_21, c_84, c_100]) hP hD hS (lv_sub hl [0, 1, 3, 4, 5, 6, 7] rfl)
        · refine lv_aload_n hx hb dX5_inTheWay_24 rfl (lv_at hl 2 rfl) ?_
          refine va_get (D := G) (ci := 5) (v := .ref (a 9)) (C := RX5) (T := TX5) (N := 17) hx hb hts hin5 hown hK hP 0 rfl rfl 9 (by decide) fl_35 (fun _ h9 => h9) rfl dX5_inTheWay_25 ?_
          refine lv_iload hx hb dX5_inTheWay_28 (lv_at hl 0 rfl) ?_
          refine fw_zald (j := t) (f := dr) hx hb hK hP 9 2 rfl rfl (by omega) (by decide) dX5_inTheWay_30 ?_
          refine lv_if_ne (tgt := 76) hx hb dX5_inTheWay_31 (by decide) (fun c_31 => ?_) (fun c_31 => ?_)
          · refine lv_iconst (v := 0) hx hb dX5_inTheWay_76 (by decide) ?_
            refine lv_istore (lv' := [(7, .int 0), (6, .int (nI t)), (5, .int acc), (0, .ref (a 0)), (1, .int (nI x)), (2, .int (nI y)), (3, .int (nI k)), (4, .int x4)]) hx hb dX5_inTheWay_77 hl (by decide) rfl (fun ls hl => ?_)
            refine lv_iload hx hb dX5_inTheWay_79 (lv_at hl 2 rfl) ?_
            refine lv_iload hx hb dX5_inTheWay_81 (lv_at hl 1 rfl) ?_
            refine lv_iload_n hx hb dX5_inTheWay_83 rfl (lv_at hl 4 rfl) ?_
            refine lv_icmp_eq (tgt := 110) hx hb dX5_inTheWay_84 (by decide) (fun c_84 => ?_) (fun c_84 => ?_)
            · have c_84 : t = x := (nI_eq (by omega) (by omega)).mp c_84
              refine lv_iconst (v := 0) hx hb dX5_inTheWay_110 (by decide) ?_
              refine lv_ior hx hb dX5_inTheWay_111 ?_
              refine lv_istore (lv' := [(5, .int (acc ||| 0)), (7, .int 0), (6, .int (nI t)), (0, .ref (a 0)), (1, .int (nI x)), (2, .int (nI y)), (3, .int (nI k)), (4, .int x4)]) hx hb dX5_inTheWay_112 hl (by decide) rfl (fun ls hl => ?_)
              refine lv_iinc (v := nI (t + 1)) (lv' := [(6, .int (nI (t + 1))), (5, .int (acc ||| 0)), (7, .int 0), (0, .ref (a 0)), (1, .int (nI x)), (2, .int (nI y)), (3, .int (nI k)), (4, .int x4)]) hx hb dX5_inTheWay_114 hl (k := 2) rfl (fw_inc _) (by decide) rfl (fun ls hl => ?_)
              refine lv_goto (tgt := 6) hx hb dX5_inTheWay_117 (by decide) ?_
              exact ih_6 (t + 1) (acc ||| 0) _ _ _ (by omega) (by omega) (by rw [fw_itS, ← hacc]; simp [mx_wayS, mx_er, c_21, c_31, c_84]) hP hD hS (lv_sub hl [0, 1, 3, 4, 5, 6, 7] rfl)
            · have c_84 : ¬ t = x := fun q => c_84 (by rw [q])
              refine lv_iload hx hb dX5_inTheWay_87 (lv_at hl 0 rfl) ?_
              refine lv_if_ne (tgt := 103) hx hb dX5_inTheWay_89 (by decide) (fun z9 => absurd z9 (by decide)) (fun _ => ?_)
              refine lv_aload_n hx hb dX5_inTheWay_92 rfl (lv_at hl 3 rfl) ?_
              refine lv_iload hx hb dX5_inTheWay_93 (lv_at hl 1 rfl) ?_
              refine lv_iload_n hx hb dX5_inTheWay_95 rfl (lv_at hl 5 rfl) ?_
              refine lv_iload_n hx hb dX5_inTheWay_96 rfl (lv_at hl 6 rfl) ?_
              refine kV (As := [.int (nI t), .int (nI y), .int (nI k)]) (rest := [.int acc]) ⟨hx, hb, hml, hown, hts⟩ (c_X5_holdsAgainst l G cB cI cZ tc a ag ow ru hd kd tb md lv dr nb bg lr lb lh g t0 q t y k hL hy8 hk9 hag) (cwV 3 hts gX5_inTheWay_X5_holdsAgainst rfl rfl rfl (by decide +kernel) ⟨by decide, by decide⟩) hK hZ hA hP hD hS 0 5 rfl rfl rfl hl.1 rfl (Nat.le_of_ble_eq_true rfl) dX5_inTheWay_97 ⟨Nat.zero_le _, Nat.zero_le _⟩ (fun v w' H locs hp hP hD hS => ?_)
              obtain ⟨rfl, rfl⟩ := hp
              have hP : va_P G vwCl (wm a cB cI cZ ag (nI g) ow ru hd kd tb md lv dr nb bg (nI t0) (nI q) lr lb lh) H := hP
              have hD : va_D A (wm a cB cI cZ ag (nI g) ow ru hd kd tb md lv dr nb bg (nI t0) (nI q) lr lb lh) := hD
              refine W.eq (g2 := F0 m 100 ls [.int (fw_b (mx_ha hd t y k)), .int acc]) rfl ?_
              refine lv_if_eq (tgt := 110) hx hb dX5_inTheWay_100 (by decide) (fun c_100 => ?_) (fun c_100 => ?_)
              · have c_100 := fw_b0.mp c_100
                refine lv_iconst (v := 0) hx hb dX5_inTheWay_110 (by decide) ?_
                refine lv_ior hx hb dX5_inTheWay_111 ?_
                refine lv_istore (lv' := [(5, .int (acc ||| 0)), (7, .int 0), (6, .int (nI t)), (0, .ref (a 0)), (1, .int (nI x)), (2, .int (nI y)), (3, .int (nI k)), (4, .int x4)]) hx hb dX5_inTheWay_112 hl (by decide) rfl (fun ls hl => ?_)
                refine lv_iinc (v := nI (t + 1)) (lv' := [(6, .int (nI (t + 1))), (5, .int (acc ||| 0)), (7, .int 0), (0, .ref (a 0)), (1, .int (nI x)), (2, .int (nI y)), (3, .int (nI k)), (4, .int x4)]) hx hb dX5_inTheWay_114 hl (k := 2) rfl (fw_inc _) (by decide) rfl (fun ls hl => ?_)
                refine lv_goto (tgt := 6) hx hb dX5_inTheWay_117 (by decide) ?_
                exact ih_6 (t + 1) (acc ||| 0) _ _ _ (by omega) (by omega) (by rw [fw_itS, ← hacc]; simp [mx_wayS, mx_er, c_21, c_31, c_84, c_100]) hP hD hS (lv_sub hl [0, 1, 3, 4, 5, 6, 7] rfl)
              · have c_100 := fw_b1.mp c_100
                refine lv_iconst (v := 1) hx hb dX5_inTheWay_103 (by decide) ?_
                refine lv_iload hx hb dX5_inTheWay_104 (lv_at hl 1 rfl) ?_
                refine lv_ishl hx hb dX5_inTheWay_106 ?_
                refine lv_goto (tgt := 111) hx hb dX5_inTheWay_107 (by decide) ?_
                refine lv_ior hx hb dX5_inTheWay_111 ?_
                refine lv_istore (lv' := [(5, .int (acc ||| (1 <<< ((nI t) &&& 31)))), (7, .int 0), (6, .int (nI t)), (0, .ref (a 0)), (1, .int (nI x)), (2, .int (nI y)), (3, .int (nI k)), (4, .int x4)]) hx hb dX5_inTheWay_112 hl (by decide) rfl (fun ls hl => ?_)
                refine lv_iinc (v := nI (t + 1)) (lv' := [(6, .int (nI (t + 1))), (5, .int (acc ||| (1 <<< ((nI t) &&& 31)))), (7, .int 0), (0, .ref (a 0)), (1, .int (nI x)), (2, .int (nI y)), (3, .int (nI k)), (4, .int x4)]) hx hb dX5_inTheWay_114 hl (k := 2) rfl (fw_inc _) (by decide) rfl (fun ls hl => ?_)
                refine lv_goto (tgt := 6) hx hb dX5_inTheWay_117 (by decide) ?_
                exact ih_6 (t + 1) (acc ||| (1 <<< ((nI t) &&& 31))) _ _ _ (by omega) (by omega) (by rw [fw_itS, ← hacc]; simp [mx_wayS, mx_er, c_21, c_31, c_84, c_100]) hP hD hS (lv_sub hl [0, 1, 3, 4, 5, 6, 7] rfl)
          · refine lv_aload_n hx hb dX5_inTheWay_34 rfl (lv_at hl 2 rfl) ?_
            refine va_get (D := G) (ci := 5) (v := .ref (a 6)) (C := RX5) (T := TX5) (N := 17) hx hb hts hin5 hown hK hP 0 rfl rfl 6 (by decide) fl_26 (fun _ h9 => h9) rfl dX5_inTheWay_35 ?_
            refine lv_iload hx hb dX5_inTheWay_38 (lv_at hl 0 rfl) ?_
            refine fw_iald (j := t) (f := tb) hx hb hK hP 6 1 rfl rfl (by omega) (by decide) dX5_inTheWay_40 ?_
            refine lv_iload_n hx hb dX5_inTheWay_41 rfl (lv_at hl 4 rfl) ?_
            refine lv_icmp_ne (tgt := 76) hx hb dX5_inTheWay_42 (by decide) (fun c_42 => ?_) (fun c_42 => ?_)
            · refine lv_iconst (v := 0) hx hb dX5_inTheWay_76 (by decide) ?_
              refine lv_istore (lv' := [(7, .int 0), (6, .int (nI t)), (5, .int acc), (0, .ref (a 0)), (1, .int (nI x)), (2, .int (nI y)), (3, .int (nI k)), (4, .int x4)]) hx hb dX5_inTheWay_77 hl (by decide) rfl (fun ls hl => ?_)
              refine lv_iload hx hb dX5_inTheWay_79 (lv_at hl 2 rfl) ?_
              refine lv_iload hx hb dX5_inTheWay_81 (lv_at hl 1 rfl) ?_
              refine lv_iload_n hx hb dX5_inTheWay_83 rfl (lv_at hl 4 rfl) ?_
              refine lv_icmp_eq (tgt := 110) hx hb dX5_inTheWay_84 (by decide) (fun c_84 => ?_) (fun c_84 => ?_)
              · have c_84 : t = x := (nI_eq (by omega) (by omega)).mp c_84
                refine lv_iconst (v := 0) hx hb dX5_inTheWay_110 (by decide) ?_
                refine lv_ior hx hb dX5_inTheWay_111 ?_
                refine lv_istore (lv' := [(5, .int (acc ||| 0)), (7, .int 0), (6, .int (nI t)), (0, .ref (a 0)), (1, .int (nI x)), (2, .int (nI y)), (3, .int (nI k)), (4, .int x4)]) hx hb dX5_inTheWay_112 hl (by decide) rfl (fun ls hl => ?_)
                refine lv_iinc (v := nI (t + 1)) (lv' := [(6, .int (nI (t + 1))), (5, .int (acc ||| 0)), (7, .int 0), (0, .ref (a 0)), (1, .int (nI x)), (2, .int (nI y)), (3, .int (nI k)), (4, .int x4)]) hx hb dX5_inTheWay_114 hl (k := 2) rfl (fw_inc _) (by decide) rfl (fun ls hl => ?_)
                refine lv_goto (tgt := 6) hx hb dX5_inTheWay_117 (by decide) ?_
                exact ih_6 (t + 1) (acc ||| 0) _ _ _ (by omega) (by omega) (by rw [fw_itS, ← hacc]; simp [mx_wayS, mx_er, c_21, c_31, c_42, c_84]) hP hD hS (lv_sub hl [0, 1, 3, 4, 5, 6, 7] rfl)
              · have c_84 : ¬ t = x := fun q => c_84 (by rw [q])
                refine lv_iload hx hb dX5_inTheWay_87 (lv_at hl 0 rfl) ?_
                refine lv_if_ne (tgt := 103) hx hb dX5_inTheWay_89 (by decide) (fun z9 => absurd z9 (by decide)) (fun _ => ?_)
                refine lv_aload_n hx hb dX5_inTheWay_92 rfl (lv_at hl 3 rfl) ?_
                refine lv_iload hx hb dX5_inTheWay_93 (lv_at hl 1 rfl) ?_
                refine lv_iload_n hx hb dX5_inTheWay_95 rfl (lv_at hl 5 rfl) ?_
                refine lv_iload_n hx hb dX5_inTheWay_96 rfl (lv_at hl 6 rfl) ?_
                refine kV (As := [.int (nI t), .int (nI y), .int (nI k)]) (rest := [.int acc]) ⟨hx, hb, hml, hown, hts⟩ (c_X5_holdsAgainst l G cB cI cZ tc a ag ow ru hd kd tb md lv dr nb bg lr lb lh g t0 q t y k hL hy8 hk9 hag) (cwV 3 hts gX5_inTheWay_X5_holdsAgainst rfl rfl rfl (by decide +kernel) ⟨by decide, by decide⟩) hK hZ hA hP hD hS 0 5 rfl rfl rfl hl.1 rfl (Nat.le_of_ble_eq_true rfl) dX5_inTheWay_97 ⟨Nat.zero_le _, Nat.zero_le _⟩ (fun v w' H locs hp hP hD hS => ?_)
                obtain ⟨rfl, rfl⟩ := hp
                have hP : va_P G vwCl (wm a cB cI cZ ag (nI g) ow ru hd kd tb md lv dr nb bg (nI t0) (nI q) lr lb lh) H := hP
                have hD : va_D A (wm a cB cI cZ ag (nI g) ow ru hd kd tb md lv dr nb bg (nI t0) (nI q) lr lb lh) := hD
                refine W.eq (g2 := F0 m 100 ls [.int (fw_b (mx_ha hd t y k)), .int acc]) rfl ?_
                refine lv_if_eq (tgt := 110) hx hb dX5_inTheWay_100 (by decide) (fun c_100 => ?_) (fun c_100 => ?_)
                · have c_100 := fw_b0.mp c_100
                  refine lv_iconst (v := 0) hx hb dX5_inTheWay_110 (by decide) ?_
                  refine lv_ior hx hb dX5_inTheWay_111 ?_
                  refine lv_istore (lv' := [(5, .int (acc ||| 0)), (7, .int 0), (6, .int (nI t)), (0, .ref (a 0)), (1, .int (nI x)), (2, .int (nI y)), (3, .int (nI k)), (4, .int x4)]) hx hb dX5_inTheWay_112 hl (by decide) rfl (fun ls hl => ?_)
                  refine lv_iinc (v := nI (t + 1)) (lv' := [(6, .int (nI (t + 1))), (5, .int (acc ||| 0)), (7, .int 0), (0, .ref (a 0)), (1, .int (nI x)), (2, .int (nI y)), (3, .int (nI k)), (4, .int x4)]) hx hb dX5_inTheWay_114 hl (k := 2) rfl (fw_inc _) (by decide) rfl (fun ls hl => ?_)
                  refine lv_goto (tgt := 6) hx hb dX5_inTheWay_117 (by decide) ?_
                  exact ih_6 (t + 1) (acc ||| 0) _ _ _ (by omega) (by omega) (by rw [fw_itS, ← hacc]; simp [mx_wayS, mx_er, c_21, c_31, c_42, c_84, c_100]) hP hD hS (lv_sub hl [0, 1, 3, 4, 5, 6, 7] rfl)
                · have c_100 := fw_b1.mp c_100
                  refine lv_iconst (v := 1) hx hb dX5_inTheWay_103 (by decide) ?_
                  refine lv_iload hx hb dX5_inTheWay_104 (lv_at hl 1 rfl) ?_
                  refine lv_ishl hx hb dX5_inTheWay_106 ?_
                  refine lv_goto (tgt := 111) hx hb dX5_inTheWay_107 (by decide) ?_
                  refine lv_ior hx hb dX5_inTheWay_111 ?_
                  refine lv_istore (lv' := [(5, .int (acc ||| (1 <<< ((nI t) &&& 31)))), (7, .int 0), (6, .int (nI t)), (0, .ref (a 0)), (1, .int (nI x)), (2, .int (nI y)), (3, .int (nI k)), (4, .int x4)]) hx hb dX5_inTheWay_112 hl (by decide) rfl (fun ls hl => ?_)
                  refine lv_iinc (v := nI (t + 1)) (lv' := [(6, .int (nI (t + 1))), (5, .int (acc ||| (1 <<< ((nI t) &&& 31)))), (7, .int 0), (0, .ref (a 0)), (1, .int (nI x)), (2, .int (nI y)), (3, .int (nI k)), (4, .int x4)]) hx hb dX5_inTheWay_114 hl (k := 2) rfl (fw_inc _) (by decide) rfl (fun ls hl => ?_)
                  refine lv_goto (tgt := 6) hx hb dX5_inTheWay_117 (by decide) ?_
                  exact ih_6 (t + 1) (acc ||| (1 <<< ((nI t) &&& 31))) _ _ _ (by omega) (by omega) (by rw [fw_itS, ← hacc]; simp [mx_wayS, mx_er, c_21, c_31, c_42, c_84, c_100]) hP hD hS (lv_sub hl [0, 1, 3, 4, 5, 6, 7] rfl)
            · refine lv_aload_n hx hb dX5_inTheWay_45 rfl (lv_at hl 2 rfl) ?_
              refine lv_iload_n hx hb dX5_inTheWay_46 rfl (lv_at hl 5 rfl) ?_
              refine lv_aload_n hx hb dX5_inTheWay_47 rfl (lv_at hl 2 rfl) ?_
              refine va_get (D := G) (ci := 5) (v := .ref (a 7)) (C := RX5) (T := TX5) (N := 17) hx hb hts hin5 hown hK hP 0 rfl rfl 7 (by decide) fl_29 (fun _ h9 => h9) rfl dX5_inTheWay_48 ?_
              refine lv_iload hx hb dX5_inTheWay_51 (lv_at hl 0 rfl) ?_
              refine fw_iald (j := t) (f := md) hx hb hK hP 7 1 rfl rfl (by omega) (by decide) dX5_inTheWay_53 ?_
              obtain ⟨b, hb9, eb⟩ := hmd t hL
              rw [eb]
              refine kV (As := [.int (nI k), .int (nI b)]) (rest := []) ⟨hx, hb, hml, hown, hts⟩ (c_X5_conflicts l G cB cI cZ tc a ag ow ru hd kd tb md lv dr nb bg lr lb lh g t0 q k b hk9 hb9 hag) (cwV 2 hts gX5_inTheWay_X5_conflicts rfl rfl rfl (by decide +kernel) ⟨by decide, by decide⟩) hK hZ hA hP hD hS 0 5 rfl rfl rfl hl.1 rfl (Nat.le_of_ble_eq_true rfl) dX5_inTheWay_54 ⟨Nat.zero_le _, Nat.zero_le _⟩ (fun v w' H locs hp hP hD hS => ?_)
              obtain ⟨rfl, rfl⟩ := hp
              have hP : va_P G vwCl (wm a cB cI cZ ag (nI g) ow ru hd kd tb md lv dr nb bg (nI t0) (nI q) lr lb lh) H := hP
              have hD : va_D A (wm a cB cI cZ ag (nI g) ow ru hd kd tb md lv dr nb bg (nI t0) (nI q) lr lb lh) := hD
              refine W.eq (g2 := F0 m 57 ls [.int (fw_b (px_cf k (nI b)))]) rfl ?_
              refine lv_if_eq (tgt := 76) hx hb dX5_inTheWay_57 (by decide) (fun c_57 => ?_) (fun c_57 => ?_)
              · have c_57 := fw_b0.mp c_57
                refine lv_iconst (v := 0) hx hb dX5_inTheWay_76 (by decide) ?_
                refine lv_istore (lv' := [(7, .int 0), (6, .int (nI t)), (5, .int acc), (0, .ref (a 0)), (1, .int (nI x)), (2, .int (nI y)), (3, .int (nI k)), (4, .int x4)]) hx hb dX5_inTheWay_77 hl (by decide) rfl (fun ls hl => ?_)
                refine lv_iload hx hb dX5_inTheWay_79 (lv_at hl 2 rfl) ?_
                refine lv_iload hx hb dX5_inTheWay_81 (lv_at hl 1 rfl) ?_
                refine lv_iload_n hx hb dX5_inTheWay_83 rfl (lv_at hl 4 rfl) ?_
                refine lv_icmp_eq (tgt := 110) hx hb dX5_inTheWay_84 (by decide) (fun c_84 => ?_) (fun c_84 => ?_)
                · have c_84 : t = x := (nI_eq (by omega) (by omega)).mp c_84
                  refine lv_iconst (v := 0) hx hb dX5_inTheWay_110 (by decide) ?_
                  refine lv_ior hx hb dX5_inTheWay_111 ?_
                  refine lv_istore (lv' := [(5, .int (acc ||| 0)), (7, .int 0), (6, .int (nI t)), (0, .ref (a 0)), (1, .int (nI x)), (2, .int (nI y)), (3, .int (nI k)), (4, .int x4)]) hx hb dX5_inTheWay_112 hl (by decide) rfl (fun ls hl => ?_)
                  refine lv_iinc (v := nI (t + 1)) (lv' := [(6, .int (nI (t + 1))), (5, .int (acc ||| 0)), (7, .int 0), (0, .ref (a 0)), (1, .int (nI x)), (2, .int (nI y)), (3, .int (nI k)), (4, .int x4)]) hx hb dX5_inTheWay_114 hl (k := 2) rfl (fw_inc _) (by decide) rfl (fun ls hl => ?_)
                  refine lv_goto (tgt := 6) hx hb dX5_inTheWay_117 (by decide) ?_
                  exact ih_6 (t + 1) (acc ||| 0) _ _ _ (by omega) (by omega) (by rw [fw_itS, ← hacc]; simp [mx_wayS, mx_er, c_21, c_31, c_42, c_57, c_84, eb]) hP hD hS (lv_sub hl [0, 1, 3, 4, 5, 6, 7] rfl)
                · have c_84 : ¬ t = x := fun q => c_84 (by rw [q])
                  refine lv_iload hx hb dX5_inTheWay_87 (lv_at hl 0 rfl) ?_
                  refine lv_if_ne (tgt := 103) hx hb dX5_inTheWay_89 (by decide) (fun z9 => absurd z9 (by decide)) (fun _ => ?_)
                  refine lv_aload_n hx hb dX5_inTheWay_92 rfl (lv_at hl 3 rfl) ?_
                  refine lv_iload hx hb dX5_inTheWay_93 (lv_at hl 1 rfl) ?_
                  refine lv_iload_n hx hb dX5_inTheWay_95 rfl (lv_at hl 5 rfl) ?_
                  refine lv_iload_n hx hb dX5_inTheWay_96 rfl (lv_at hl 6 rfl) ?_
                  refine kV (As := [.int (nI t), .int (nI y), .int (nI k)]) (rest := [.int acc]) ⟨hx, hb, hml, hown, hts⟩ (c_X5_holdsAgainst l G cB cI cZ tc a ag ow ru hd kd tb md lv dr nb bg lr lb lh g t0 q t y k hL hy8 hk9 hag) (cwV 3 hts gX5_inTheWay_X5_holdsAgainst rfl rfl rfl (by decide +kernel) ⟨by decide, by decide⟩) hK hZ hA hP hD hS 0 5 rfl rfl rfl hl.1 rfl (Nat.le_of_ble_eq_true rfl) dX5_inTheWay_97 ⟨Nat.zero_le _, Nat.zero_le _⟩ (fun v w' H locs hp hP hD hS => ?_)
                  obtain ⟨rfl, rfl⟩ := hp
                  have hP : va_P G vwCl (wm a cB cI cZ ag (nI g) ow ru hd kd tb md lv dr nb bg (nI t0) (nI q) lr lb lh) H := hP
                  have hD : va_D A (wm a cB cI cZ ag (nI g) ow ru hd kd tb md lv dr nb bg (nI t0) (nI q) lr lb lh) := hD
                  refine W.eq (g2 := F0 m 100 ls [.int (fw_b (mx_ha hd t y k)), .int acc]) rfl ?_
                  refine lv_if_eq (tgt := 110) hx hb dX5_inTheWay_100 (by decide) (fun c_100 => ?_) (fun c_100 => ?_)
                  · have c_100 := fw_b0.mp c_100
                    refine lv_iconst (v := 0) hx hb dX5_inTheWay_110 (by decide) ?_
                    refine lv_ior hx hb dX5_inTheWay_111 ?_
                    refine lv_istore (lv' := [(5, .int (acc ||| 0)), (7, .int 0), (6, .int (nI t)), (0, .ref (a 0)), (1, .int (nI x)), (2, .int (nI y)), (3, .int (nI k)), (4, .int x4)]) hx hb dX5_inTheWay_112 hl (by decide) rfl (fun ls hl => ?_)
                    refine lv_iinc (v := nI (t + 1)) (lv' := [(6, .int (nI (t + 1))), (5, .int (acc ||| 0)), (7, .int 0), (0, .ref (a 0)), (1, .int (nI x)), (2, .int (nI y)), (3, .int (nI k)), (4, .int x4)]) hx hb dX5_inTheWay_114 hl (k := 2) rfl (fw_inc _) (by decide) rfl (fun ls hl => ?_)
                    refine lv_goto (tgt := 6) hx hb dX5_inTheWay_117 (by decide) ?_
                    exact ih_6 (t + 1) (acc ||| 0) _ _ _ (by omega) (by omega) (by rw [fw_itS, ← hacc]; simp [mx_wayS, mx_er, c_21, c_31, c_42, c_57, c_84, c_100, eb]) hP hD hS (lv_sub hl [0, 1, 3, 4, 5, 6, 7] rfl)
                  · have c_100 := fw_b1.mp c_100
                    refine lv_iconst (v := 1) hx hb dX5_inTheWay_103 (by decide) ?_
                    refine lv_iload hx hb dX5_inTheWay_104 (lv_at hl 1 rfl) ?_
                    refine lv_ishl hx hb dX5_inTheWay_106 ?_
                    refine lv_goto (tgt := 111) hx hb dX5_inTheWay_107 (by decide) ?_
                    refine lv_ior hx hb dX5_inTheWay_111 ?_
                    refine lv_istore (lv' := [(5, .int (acc ||| (1 <<< ((nI t) &&& 31)))), (7, .int 0), (6, .int (nI t)), (0, .ref (a 0)), (1, .int (nI x)), (2, .int (nI y)), (3, .int (nI k)), (4, .int x4)]) hx hb dX5_inTheWay_112 hl (by decide) rfl (fun ls hl => ?_)
                    refine lv_iinc (v := nI (t + 1)) (lv' := [(6, .int (nI (t + 1))), (5, .int (acc ||| (1 <<< ((nI t) &&& 31)))), (7, .int 0), (0, .ref (a 0)), (1, .int (nI x)), (2, .int (nI y)), (3, .int (nI k)), (4, .int x4)]) hx hb dX5_inTheWay_114 hl (k := 2) rfl (fw_inc _) (by decide) rfl (fun ls hl => ?_)
                    refine lv_goto (tgt := 6) hx hb dX5_inTheWay_117 (by decide) ?_
                    exact ih_6 (t + 1) (acc ||| (1 <<< ((nI t) &&& 31))) _ _ _ (by omega) (by omega) (by rw [fw_itS, ← hacc]; simp [mx_wayS, mx_er, c_21, c_31, c_42, c_57, c_84, c_100, eb]) hP hD hS (lv_sub hl [0, 1, 3, 4, 5, 6, 7] rfl)
              · have c_57 := fw_b1.mp c_57
                refine lv_aload_n hx hb dX5_inTheWay_60 rfl (lv_at hl 2 rfl) ?_
                refine va_get (D := G) (ci := 5) (v := .ref (a 11)) (C := RX5) (T := TX5) (N := 17) hx hb hts hin5 hown hK hP 0 rfl rfl 11 (by decide) fl_41 (fun _ h9 => h9) rfl dX5_inTheWay_61 ?_
                refine lv_iload hx hb dX5_inTheWay_64 (lv_at hl 0 rfl) ?_
                refine fw_iald (j := t) (f := bg) hx hb hK hP 11 1 rfl rfl (by omega) (by decide) dX5_inTheWay_66 ?_
                refine lv_iload hx hb dX5_inTheWay_67 (lv_at hl 6 rfl) ?_
                refine lv_icmp_ge (tgt := 76) hx hb dX5_inTheWay_69 (by decide) (fun c_69 => ?_) (fun c_69 => ?_)
                · refine lv_iconst (v := 0) hx hb dX5_inTheWay_76 (by decide) ?_
                  refine lv_istore (lv' := [(7, .int 0), (6, .int (nI t)), (5, .int acc), (0, .ref (a 0)), (1, .int (nI x)), (2, .int (nI y)), (3, .int (nI k)), (4, .int x4)]) hx hb dX5_inTheWay_77 hl (by decide) rfl (fun ls hl => ?_)
                  refine lv_iload hx hb dX5_inTheWay_79 (lv_at hl 2 rfl) ?_
                  refine lv_iload hx hb dX5_inTheWay_81 (lv_at hl 1 rfl) ?_
                  refine lv_iload_n hx hb dX5_inTheWay_83 rfl (lv_at hl 4 rfl) ?_
                  refine lv_icmp_eq (tgt := 110) hx hb dX5_inTheWay_84 (by decide) (fun c_84 => ?_) (fun c_84 => ?_)
                  · have c_84 : t = x := (nI_eq (by omega) (by omega)).mp c_84
                    refine lv_iconst (v := 0) hx hb dX5_inTheWay_110 (by decide) ?_
                    refine lv_ior hx hb dX5_inTheWay_111 ?_
                    refine lv_istore (lv' := [(5, .int (acc ||| 0)), (7, .int 0), (6, .int (nI t)), (0, .ref (a 0)), (1, .int (nI x)), (2, .int (nI y)), (3, .int (nI k)), (4, .int x4)]) hx hb dX5_inTheWay_112 hl (by decide) rfl (fun ls hl => ?_)
                    refine lv_iinc (v := nI (t + 1)) (lv' := [(6, .int (nI (t + 1))), (5, .int (acc ||| 0)), (7, .int 0), (0, .ref (a 0)), (1, .int (nI x)), (2, .int (nI y)), (3, .int (nI k)), (4, .int x4)]) hx hb dX5_inTheWay_114 hl (k := 2) rfl (fw_inc _) (by decide) rfl (fun ls hl => ?_)
                    refine lv_goto (tgt := 6) hx hb dX5_inTheWay_117 (by decide) ?_
                    exact ih_6 (t + 1) (acc ||| 0) _ _ _ (by omega) (by omega) (by rw [fw_itS, ← hacc]; simp [mx_wayS, mx_er, c_21, c_31, c_42, c_57, c_69, c_84, eb]) hP hD hS (lv_sub hl [0, 1, 3, 4, 5, 6, 7] rfl)
                  · have c_84 : ¬ t = x := fun q => c_84 (by rw [q])
                    refine lv_iload hx hb dX5_inTheWay_87 (lv_at hl 0 rfl) ?_
                    refine lv_if_ne (tgt := 103) hx hb dX5_inTheWay_89 (by decide) (fun z9 => absurd z9 (by decide)) (fun _ => ?_)
                    refine lv_aload_n hx hb dX5_inTheWay_92 rfl (lv_at hl 3 rfl) ?_
                    refine lv_iload hx hb dX5_inTheWay_93 (lv_at hl 1 rfl) ?_
                    refine lv_iload_n hx hb dX5_inTheWay_95 rfl (lv_at hl 5 rfl) ?_
                    refine lv_iload_n hx hb dX5_inTheWay_96 rfl (lv_at hl 6 rfl) ?_
                    refine kV (As := [.int (nI t), .int (nI y), .int (nI k)]) (rest := [.int acc]) ⟨hx, hb, hml, hown, hts⟩ (c_X5_holdsAgainst l G cB cI cZ tc a ag ow ru hd kd tb md lv dr nb bg lr lb lh g t0 q t y k hL hy8 hk9 hag) (cwV 3 hts gX5_inTheWay_X5_holdsAgainst rfl rfl rfl (by decide +kernel) ⟨by decide, by decide⟩) hK hZ hA hP hD hS 0 5 rfl rfl rfl hl.1 rfl (Nat.le_of_ble_eq_true rfl) dX5_inTheWay_97 ⟨Nat.zero_le _, Nat.zero_le _⟩ (fun v w' H locs hp hP hD hS => ?_)
                    obtain ⟨rfl, rfl⟩ := hp
                    have hP : va_P G vwCl (wm a cB cI cZ ag (nI g) ow ru hd kd tb md lv dr nb bg (nI t0) (nI q) lr lb lh) H := hP
                    have hD : va_D A (wm a cB cI cZ ag (nI g) ow ru hd kd tb md lv dr nb bg (nI t0) (nI q) lr lb lh) := hD
                    refine W.eq (g2 := F0 m 100 ls [.int (fw_b (mx_ha hd t y k)), .int acc]) rfl ?_
                    refine lv_if_eq (tgt := 110) hx hb dX5_inTheWay_100 (by decide) (fun c_100 => ?_) (fun c_100 => ?_)
                    · have c_100 := fw_b0.mp c_100
                      refine lv_iconst (v := 0) hx hb dX5_inTheWay_110 (by decide) ?_
                      refine lv_ior hx hb dX5_inTheWay_111 ?_
                      refine lv_istore (lv' := [(5, .int (acc ||| 0)), (7, .int 0), (6, .int (nI t)), (0, .ref (a 0)), (1, .int (nI x)), (2, .int (nI y)), (3, .int (nI k)), (4, .int x4)]) hx hb dX5_inTheWay_112 hl (by decide) rfl (fun ls hl => ?_)
                      refine lv_iinc (v := nI (t + 1)) (lv' := [(6, .int (nI (t + 1))), (5, .int (acc ||| 0)), (7, .int 0), (0, .ref (a 0)), (1, .int (nI x)), (2, .int (nI y)), (3, .int (nI k)), (4, .int x4)]) hx hb dX5_inTheWay_114 hl (k := 2) rfl (fw_inc _) (by decide) rfl (fun ls hl => ?_)
                      refine lv_goto (tgt := 6) hx hb dX5_inTheWay_117 (by decide) ?_
                      exact ih_6 (t + 1) (acc ||| 0) _ _ _ (by omega) (by omega) (by rw [fw_itS, ← hacc]; simp [mx_wayS, mx_er, c_21, c_31, c_42, c_57, c_69, c_84, c_100, eb]) hP hD hS (lv_sub hl [0, 1, 3, 4, 5, 6, 7] rfl)
                    · have c_100 := fw_b1.mp c_100
                      refine lv_iconst (v := 1) hx hb dX5_inTheWay_103 (by decide) ?_
                      refine lv_iload hx hb dX5_inTheWay_104 (lv_at hl 1 rfl) ?_
                      refine lv_ishl hx hb dX5_inTheWay_106 ?_
                      refine lv_goto (tgt := 111) hx hb dX5_inTheWay_107 (by decide) ?_
                      refine lv_ior hx hb dX5_inTheWay_111 ?_
                      refine lv_istore (lv' := [(5, .int (acc ||| (1 <<< ((nI t) &&& 31)))), (7, .int 0), (6, .int (nI t)), (0, .ref (a 0)), (1, .int (nI x)), (2, .int (nI y)), (3, .int (nI k)), (4, .int x4)]) hx hb dX5_inTheWay_112 hl (by decide) rfl (fun ls hl => ?_)
                      refine lv_iinc (v := nI (t + 1)) (lv' := [(6, .int (nI (t + 1))), (5, .int (acc ||| (1 <<< ((nI t) &&& 31)))), (7, .int 0), (0, .ref (a 0)), (1, .int (nI x)), (2, .int (nI y)), (3, .int (nI k)), (4, .int x4)]) hx hb dX5_inTheWay_114 hl (k := 2) rfl (fw_inc _) (by decide) rfl (fun ls hl => ?_)
                      refine lv_goto (tgt := 6) hx hb dX5_inTheWay_117 (by decide) ?_
                      exact ih_6 (t + 1) (acc ||| (1 <<< ((nI t) &&& 31))) _ _ _ (by omega) (by omega) (by rw [fw_itS, ← hacc]; simp [mx_wayS, mx_er, c_21, c_31, c_42, c_57, c_69, c_84, c_100, eb]) hP hD hS (lv_sub hl [0, 1, 3, 4, 5, 6, 7] rfl)
                · refine lv_iconst (v := 1) hx hb dX5_inTheWay_72 (by decide) ?_
                  refine lv_goto (tgt := 77) hx hb dX5_inTheWay_73 (by decide) ?_
                  refine lv_istore (lv' := [(7, .int 1), (6, .int (nI t)), (5, .int acc), (0, .ref (a 0)), (1, .int (nI x)), (2, .int (nI y)), (3, .int (nI k)), (4, .int x4)]) hx hb dX5_inTheWay_77 hl (by decide) rfl (fun ls hl => ?_)
                  refine lv_iload hx hb dX5_inTheWay_79 (lv_at hl 2 rfl) ?_
                  refine lv_iload hx hb dX5_inTheWay_81 (lv_at hl 1 rfl) ?_
                  refine lv_iload_n hx hb dX5_inTheWay_83 rfl (lv_at hl 4 rfl) ?_
                  refine lv_icmp_eq (tgt := 110) hx hb dX5_inTheWay_84 (by decide) (fun c_84 => ?_) (fun c_84 => ?_)
                  · have c_84 : t = x := (nI_eq (by omega) (by omega)).mp c_84
                    refine lv_iconst (v := 0) hx hb dX5_inTheWay_110 (by decide) ?_
                    refine lv_ior hx hb dX5_inTheWay_111 ?_
                    refine lv_istore (lv' := [(5, .int (acc ||| 0)), (7, .int 1), (6, .int (nI t)), (0, .ref (a 0)), (1, .int (nI x)), (2, .int (nI y)), (3, .int (nI k)), (4, .int x4)]) hx hb dX5_inTheWay_112 hl (by decide) rfl (fun ls hl => ?_)
                    refine lv_iinc (v := nI (t + 1)) (lv' := [(6, .int (nI (t + 1))), (5, .int (acc ||| 0)), (7, .int 1), (0, .ref (a 0)), (1, .int (nI x)), (2, .int (nI y)), (3, .int (nI k)), (4, .int x4)]) hx hb dX5_inTheWay_114 hl (k := 2) rfl (fw_inc _) (by decide) rfl (fun ls hl => ?_)
                    refine lv_goto (tgt := 6) hx hb dX5_inTheWay_117 (by decide) ?_
                    exact ih_6 (t + 1) (acc ||| 0) _ _ _ (by omega) (by omega) (by rw [fw_itS, ← hacc]; simp [mx_wayS, mx_er, c_21, c_31, c_42, c_57, c_69, c_84, eb]) hP hD hS (lv_sub hl [0, 1, 3, 4, 5, 6, 7] rfl)
                  · have c_84 : ¬ t = x := fun q => c_84 (by rw [q])
                    refine lv_iload hx hb dX5_inTheWay_87 (lv_at hl 0 rfl) ?_
                    refine lv_if_ne (tgt := 103) hx hb dX5_inTheWay_89 (by decide) (fun _ => ?_) (fun z9 => absurd z9 (by decide))
                    refine lv_iconst (v := 1) hx hb dX5_inTheWay_103 (by decide) ?_
                    refine lv_iload hx hb dX5_inTheWay_104 (lv_at hl 1 rfl) ?_
                    refine lv_ishl hx hb dX5_inTheWay_106 ?_
                    refine lv_goto (tgt := 111) hx hb dX5_inTheWay_107 (by decide) ?_
                    refine lv_ior hx hb dX5_inTheWay_111 ?_
                    refine lv_istore (lv' := [(5, .int (acc ||| (1 <<< ((nI t) &&& 31)))), (7, .int 1), (6, .int (nI t)), (0, .ref (a 0)), (1, .int (nI x)), (2, .int (nI y)), (3, .int (nI k)), (4, .int x4)]) hx hb dX5_inTheWay_112 hl (by decide) rfl (fun ls hl => ?_)
                    refine lv_iinc (v := nI (t + 1)) (lv' := [(6, .int (nI (t + 1))), (5, .int (acc ||| (1 <<< ((nI t) &&& 31)))), (7, .int 1), (0, .ref (a 0)), (1, .int (nI x)), (2, .int (nI y)), (3, .int (nI k)), (4, .int x4)]) hx hb dX5_inTheWay_114 hl (k := 2) rfl (fw_inc _) (by decide) rfl (fun ls hl => ?_)
                    refine lv_goto (tgt := 6) hx hb dX5_inTheWay_117 (by decide) ?_
                    exact ih_6 (t + 1) (acc ||| (1 <<< ((nI t) &&& 31))) _ _ _ (by omega) (by omega) (by rw [fw_itS, ← hacc]; simp [mx_wayS, mx_er, c_21, c_31, c_42, c_57, c_69, c_84, eb]) hP hD hS (lv_sub hl [0, 1, 3, 4, 5, 6, 7] rfl)
  exact lp_6 _ 0 0 _ _ _ (Nat.lt_succ_self _) (by omega) (rfl) hP hD hS (lv_sub hl [0, 1, 2, 3, 4, 5, 6] rfl)

abbrev rmX5_waitsOn : Room := { frames := 3, cells := 0, slots := 0, locals := 74 }
set_option maxHeartbeats 4000000 in
set_option maxRecDepth 100000 in
theorem c_X5_waitsOn (l : Launch) (G : va_G) (cB cI cZ : ClassId) (tc : Nat) (a : Nat → Nat) (ag ow ru hd kd tb md lv dr nb bg lr lb lh : Nat → Int32) (g : Nat) (t0 : Nat) (q : Nat) (x : Nat) (hx6 : x < 6) (hI : mx_I g t0 ag ow tb md lv dr nb bg) : KC l yX5_waitsOn wsX5_waitsOn rmX5_waitsOn G [(cB, .byte), (cI, .int), (cZ, .boolean)] tc [.ref (a 0), .int (nI x)] (wm a cB cI cZ ag (nI g) ow ru hd kd tb md lv dr nb bg (nI t0) (nI q) lr lb lh) (fun v w' => v = some (.int (mx_wo ow ru hd kd tb md dr nb bg x)) ∧ w' = (wm a cB cI cZ ag (nI g) ow ru hd kd tb md lv dr nb bg (nI t0) (nI q) lr lb lh)) := by
  refine KC.of (cc := cX5_waitsOn) (maxL := 2) (ret := some .int) (by decide) rfl (Nat.le_of_ble_eq_true rfl) ?_
  intro p e s m below meth c args A Q ls hx hb hml hown hts hK hZ hA hP hD hS hl hri hrv
  have hown : s.vm.findClass RX5 = some m.cls := hown
  have hl : lv_has ls 2 [(0, .ref (a 0)), (1, .int (nI x))] := hl
  have fl_13 := hts (.fieldLink RX5 13 "LockDeskModel" "owner" "[I") (by decide +kernel)
  have fl_16 := hts (.fieldLink RX5 16 "LockDeskModel" "runs" "[Z") (by decide +kernel)
  have fl_23 := hts (.fieldLink RX5 23 "LockDeskModel" "kind" "[I") (by decide +kernel)
  have fl_26 := hts (.fieldLink RX5 26 "LockDeskModel" "table" "[I") (by decide +kernel)
  have fl_29 := hts (.fieldLink RX5 29 "LockDeskModel" "mode" "[I") (by decide +kernel)
  have fl_35 := hts (.fieldLink RX5 35 "LockDeskModel" "dropped" "[Z") (by decide +kernel)
  have fl_38 := hts (.fieldLink RX5 38 "LockDeskModel" "number" "[I") (by decide +kernel)
  have fl_41 := hts (.fieldLink RX5 41 "LockDeskModel" "began" "[I") (by decide +kernel)
  have hin5 : ∀ w ∈ wsX50, w ∈ wsX5_waitsOn := by decide +kernel
  have hI0 := hI
  obtain ⟨hg, ht0, hag, how, htb, hmd, hdr, hlv, hnb, hbg⟩ := hI
  refine lv_aload_n hx hb dX5_waitsOn_0 rfl (lv_at hl 0 rfl) ?_
  refine va_get (D := G) (ci := 5) (v := .ref (a 5)) (C := RX5) (T := TX5) (N := 17) hx hb hts hin5 hown hK hP 0 rfl rfl 5 (by decide) fl_23 (fun _ h9 => h9) rfl dX5_waitsOn_1 ?_
  refine lv_iload_n hx hb dX5_waitsOn_4 rfl (lv_at hl 1 rfl) ?_
  refine fw_iald (j := x) (f := kd) hx hb hK hP 5 1 rfl rfl (by omega) (by decide) dX5_waitsOn_5 ?_
  refine lv_iconst (v := 2) hx hb dX5_waitsOn_6 (by decide) ?_
  refine lv_icmp_ne (tgt := 42) hx hb dX5_waitsOn_7 (by decide) (fun c_7 => ?_) (fun c_7 => ?_)
  · refine lv_aload_n hx hb dX5_waitsOn_42 rfl (lv_at hl 0 rfl) ?_
    refine va_get (D := G) (ci := 5) (v := .ref (a 5)) (C := RX5) (T := TX5) (N := 17) hx hb hts hin5 hown hK hP 0 rfl rfl 5 (by decide) fl_23 (fun _ h9 => h9) rfl dX5_waitsOn_43 ?_
    refine lv_iload_n hx hb dX5_waitsOn_46 rfl (lv_at hl 1 rfl) ?_
    refine fw_iald (j := x) (f := kd) hx hb hK hP 5 1 rfl rfl (by omega) (by decide) dX5_waitsOn_47 ?_
    refine lv_iconst (v := 1) hx hb dX5_waitsOn_48 (by decide) ?_
    refine lv_icmp_ne (tgt := 87) hx hb dX5_waitsOn_49 (by decide) (fun c_49 => ?_) (fun c_49 => ?_)
    · refine lv_iconst (v := 0) hx hb dX5_waitsOn_87 (by decide) ?_
      exact hri _ rfl 0 _ _ _ _ _ (rfl) (⟨by simp only [mx_wo, if_neg c_7, if_neg c_49], rfl⟩) hP hD hS dX5_waitsOn_88
    · refine lv_aload_n hx hb dX5_waitsOn_52 rfl (lv_at hl 0 rfl) ?_
      refine va_get (D := G) (ci := 5) (v := .ref (a 9)) (C := RX5) (T := TX5) (N := 17) hx hb hts hin5 hown hK hP 0 rfl rfl 9 (by decide) fl_35 (fun _ h9 => h9) rfl dX5_waitsOn_53 ?_
      refine lv_iload_n hx hb dX5_waitsOn_56 rfl (lv_at hl 1 rfl) ?_
      refine fw_zald (j := x) (f := dr) hx hb hK hP 9 2 rfl rfl (by omega) (by decide) dX5_waitsOn_57 ?_
      refine lv_if_ne (tgt := 87) hx hb dX5_waitsOn_58 (by decide) (fun c_58 => ?_) (fun c_58 => ?_)
      · refine lv_iconst (v := 0) hx hb dX5_waitsOn_87 (by decide) ?_
        exact hri _ rfl 0 _ _ _ _ _ (rfl) (⟨by simp only [mx_wo, if_neg c_7, if_pos c_49, if_neg c_58], rfl⟩) hP hD hS dX5_waitsOn_88
      · refine lv_aload_n hx hb dX5_waitsOn_61 rfl (lv_at hl 0 rfl) ?_
        refine lv_iload_n hx hb dX5_waitsOn_62 rfl (lv_at hl 1 rfl) ?_
        refine lv_aload_n hx hb dX5_waitsOn_63 rfl (lv_at hl 0 rfl) ?_
        refine va_get (D := G) (ci := 5) (v := .ref (a 6)) (C := RX5) (T := TX5) (N := 17) hx hb hts hin5 hown hK hP 0 rfl rfl 6 (by decide) fl_26 (fun _ h9 => h9) rfl dX5_waitsOn_64 ?_
        refine lv_iload_n hx hb dX5_waitsOn_67 rfl (lv_at hl 1 rfl) ?_
        refine fw_iald (j := x) (f := tb) hx hb hK hP 6 1 rfl rfl (by omega) (by decide) dX5_waitsOn_68 ?_
        refine lv_aload_n hx hb dX5_waitsOn_69 rfl (lv_at hl 0 rfl) ?_
        refine va_get (D := G) (ci := 5) (v := .ref (a 7)) (C := RX5) (T := TX5) (N := 17) hx hb hts hin5 hown hK hP 0 rfl rfl 7 (by decide) fl_29 (fun _ h9 => h9) rfl dX5_waitsOn_70 ?_
        refine lv_iload_n hx hb dX5_waitsOn_73 rfl (lv_at hl 1 rfl) ?_
        refine fw_iald (j := x) (f := md) hx hb hK hP 7 1 rfl rfl (by omega) (by decide) dX5_waitsOn_74 ?_
        refine lv_aload_n hx hb dX5_waitsOn_75 rfl (lv_at hl 0 rfl) ?_
        refine va_get (D := G) (ci := 5) (v := .ref (a 11)) (C := RX5) (T := TX5) (N := 17) hx hb hts hin5 hown hK hP 0 rfl rfl 11 (by decide) fl_41 (fun _ h9 => h9) rfl dX5_waitsOn_76 ?_
        refine lv_iload_n hx hb dX5_waitsOn_79 rfl (lv_at hl 1 rfl) ?_
        refine fw_iald (j := x) (f := bg) hx hb hK hP 11 1 rfl rfl (by omega) (by decide) dX5_waitsOn_80 ?_
        obtain ⟨y, hy8, ey⟩ := htb x hx6
        obtain ⟨k, hk9, ek⟩ := hmd x hx6
        rw [ey, ek]
        refine kV (As := [.int (nI x), .int (nI y), .int (nI k), .int (bg x)]) (rest := []) ⟨hx, hb, hml, hown, hts⟩ (c_X5_inTheWay l G cB cI cZ tc a ag ow ru hd kd tb md lv dr nb bg lr lb lh g t0 q x y k (bg x) hx6 hy8 hk9 hI0) (cwV 4 hts gX5_waitsOn_X5_inTheWay rfl rfl rfl (by decide +kernel) ⟨by decide, by decide⟩) hK hZ hA hP hD hS 0 5 rfl rfl rfl hl.1 rfl (Nat.le_of_ble_eq_true rfl) dX5_waitsOn_81 ⟨Nat.zero_le _, Nat.zero_le _⟩ (fun v w' H locs hp hP hD hS => ?_)
        obtain ⟨rfl, rfl⟩ := hp
        have hP : va_P G vwCl (wm a cB cI cZ ag (nI g) ow ru hd kd tb md lv dr nb bg (nI t0) (nI q) lr lb lh) H := hP
        have hD : va_D A (wm a cB cI cZ ag (nI g) ow ru hd kd tb md lv dr nb bg (nI t0) (nI q) lr lb lh) := hD
        refine W.eq (g2 := F0 m 84 ls [.int (mx_way hd kd tb md dr bg x y k (bg x))]) rfl ?_
        refine lv_goto (tgt := 88) hx hb dX5_waitsOn_84 (by decide) ?_
        exact hri _ rfl (mx_way hd kd tb md dr bg x y k (bg x)) _ _ _ _ _ (rfl) (⟨by simp only [mx_wo, if_neg c_7, if_pos c_49, if_pos c_58, ey, ek, nI_clamp (show y < 2 ^ 31 by omega), nI_clamp (show k < 2 ^ 31 by omega)], rfl⟩) hP hD hS dX5_waitsOn_88
  · refine lv_aload_n hx hb dX5_waitsOn_10 rfl (lv_at hl 0 rfl) ?_
    refine va_get (D := G) (ci := 5) (v := .ref (a 3)) (C := RX5) (T := TX5) (N := 17) hx hb hts hin5 hown hK hP 0 rfl rfl 3 (by decide) fl_16 (fun _ h9 => h9) rfl dX5_waitsOn_11 ?_
    refine lv_aload_n hx hb dX5_waitsOn_14 rfl (lv_at hl 0 rfl) ?_
    refine va_get (D := G) (ci := 5) (v := .ref (a 10)) (C := RX5) (T := TX5) (N := 17) hx hb hts hin5 hown hK hP 0 rfl rfl 10 (by decide) fl_38 (fun _ h9 => h9) rfl dX5_waitsOn_15 ?_
    refine lv_iload_n hx hb dX5_waitsOn_18 rfl (lv_at hl 1 rfl) ?_
    refine fw_iald (j := x) (f := nb) hx hb hK hP 10 1 rfl rfl (by omega) (by decide) dX5_waitsOn_19 ?_
    obtain ⟨k, hk4, ek⟩ := hnb x hx6
    rw [ek]
    have cl1 : (nI k).toNatClampNeg = k := nI_clamp (by omega)
    refine fw_zald (j := k) (f := ru) hx hb hK hP 3 2 rfl rfl (by omega) (by decide) dX5_waitsOn_20 ?_
    refine lv_if_eq (tgt := 40) hx hb dX5_waitsOn_21 (by decide) (fun c_21 => ?_) (fun c_21 => ?_)
    · refine lv_iconst (v := 0) hx hb dX5_waitsOn_40 (by decide) ?_
      exact hri _ rfl 0 _ _ _ _ _ (rfl) (⟨by simp only [mx_wo, if_pos c_7, ek, cl1, if_pos c_21], rfl⟩) hP hD hS dX5_waitsOn_41
    · refine lv_iconst (v := 1) hx hb dX5_waitsOn_24 (by decide) ?_
      refine lv_aload_n hx hb dX5_waitsOn_25 rfl (lv_at hl 0 rfl) ?_
      refine va_get (D := G) (ci := 5) (v := .ref (a 2)) (C := RX5) (T := TX5) (N := 17) hx hb hts hin5 hown hK hP 0 rfl rfl 2 (by decide) fl_13 (fun _ h9 => h9) rfl dX5_waitsOn_26 ?_
      refine lv_aload_n hx hb dX5_waitsOn_29 rfl (lv_at hl 0 rfl) ?_
      refine va_get (D := G) (ci := 5) (v := .ref (a 10)) (C := RX5) (T := TX5) (N := 17) hx hb hts hin5 hown hK hP 0 rfl rfl 10 (by decide) fl_38 (fun _ h9 => h9) rfl dX5_waitsOn_30 ?_
      refine lv_iload_n hx hb dX5_waitsOn_33 rfl (lv_at hl 1 rfl) ?_
      refine fw_iald (j := x) (f := nb) hx hb hK hP 10 1 rfl rfl (by omega) (by decide) dX5_waitsOn_34 ?_
      rw [ek]
      refine fw_iald (j := k) (f := ow) hx hb hK hP 2 1 rfl rfl (by omega) (by decide) dX5_waitsOn_35 ?_
      refine lv_ishl hx hb dX5_waitsOn_36 ?_
      refine lv_goto (tgt := 41) hx hb dX5_waitsOn_37 (by decide) ?_
      exact hri _ rfl (1 <<< ((ow k) &&& 31)) _ _ _ _ _ (rfl) (⟨by simp only [mx_wo, if_pos c_7, ek, cl1, if_neg c_21], rfl⟩) hP hD hS dX5_waitsOn_41

abbrev rmX5_leads : Room := { frames := 4, cells := 0, slots := 0, locals := 95 }
set_option maxHeartbeats 4000000 in
set_option maxRecDepth 100000 in
theorem c_X5_leads (l : Launch) (G : va_G) (cB cI cZ : ClassId) (tc : Nat) (a : Nat → Nat) (ag ow ru hd kd tb md lv dr nb bg lr lb lh : Nat → Int32) (g : Nat) (t0 : Nat) (q : Nat) (x1 : Int32) (x2 : Int32) (hI : mx_I g t0 ag ow tb md lv dr nb bg) : KC l yX5_leads wsX5_leads rmX5_leads G [(cB, .byte), (cI, .int), (cZ, .boolean)] tc [.ref (a 0), .int x1, .int x2] (wm a cB cI cZ ag (nI g) ow ru hd kd tb md lv dr nb bg (nI t0) (nI q) lr lb lh) (fun v w' => v = some (.int (fw_b (mx_ld (mx_wo ow ru hd kd tb md dr nb bg) x1 x2))) ∧ w' = (wm a cB cI cZ ag (nI g) ow ru hd kd tb md lv dr nb bg (nI t0) (nI q) lr lb lh)) := by
  refine KC.of (cc := cX5_leads) (maxL := 7) (ret := some .boolean) (by decide) rfl (Nat.le_of_ble_eq_true rfl) ?_
  intro p e s m below meth c args A Q ls hx hb hml hown hts hK hZ hA hP hD hS hl hri hrv
  have hown : s.vm.findClass RX5 = some m.cls := hown
  have hl : lv_has ls 7 [(0, .ref (a 0)), (1, .int x1), (2, .int x2)] := hl
  have hI0 := hI
  obtain ⟨hg, ht0, hag, how, htb, hmd, hdr, hlv, hnb, hbg⟩ := hI
  refine lv_iload_n hx hb dX5_leads_0 rfl (lv_at hl 1 rfl) ?_
  refine lv_istore_n (lv' := [(3, .int x1), (0, .ref (a 0)), (1, .int x1), (2, .int x2)]) hx hb dX5_leads_1 rfl hl (by decide) rfl (fun ls hl => ?_)
  refine lv_iconst (v := 0) hx hb dX5_leads_2 (by decide) ?_
  refine lv_istore (lv' := [(4, .int 0), (3, .int x1), (0, .ref (a 0)), (1, .int x1), (2, .int x2)]) hx hb dX5_leads_3 hl (by decide) rfl (fun ls hl => ?_)
  have lp_5 : ∀ (nf : Nat) (u : Nat) (rr : Int32) (H : Heap) (locs : List Loc) (ls : Array Slot), 6 - u < nf → (u ≤ 6) → (rr = fw_it (mx_ldO (mx_wo ow ru hd kd tb md dr nb bg)) u x1) → va_P G vwCl (wm a cB cI cZ ag (nI g) ow ru hd kd tb md lv dr nb bg (nI t0) (nI q) lr lb lh) H → va_D A (wm a cB cI cZ ag (nI g) ow ru hd kd tb md lv dr nb bg (nI t0) (nI q) lr lb lh) → va_S A s.heap H locs → lv_has ls 7 [(4, .int (nI u)), (3, .int rr), (0, .ref (a 0)), (1, .int x1), (2, .int x2)] → W p l e rmX5_leads s m args below meth c H locs 0 0 Q (F0 m 5 ls []) := by
    intro nf
    induction nf with
    | zero => intro u rr H locs ls h0; exact absurd h0 (Nat.not_lt_zero _)
    | succ nf_5 ih_5 =>
      intro u rr H locs ls hn_5 hu hrr hP hD hS hl
      refine lv_iload hx hb dX5_leads_5 (lv_at hl 0 rfl) ?_
      refine lv_bipush (v := 6) hx hb dX5_leads_7 (by decide) ?_
      refine lv_icmp_ge (tgt := 65) hx hb dX5_leads_9 (by decide) (fun c_9 => ?_) (fun c_9 => ?_)
      · have hE : u = 6 := by
          have := fw_nle (a := 6) c_9 (by omega) (by omega)
          omega
        refine lv_iload_n hx hb dX5_leads_65 rfl (lv_at hl 1 rfl) ?_
        refine lv_iload_n hx hb dX5_leads_66 rfl (lv_at hl 4 rfl) ?_
        refine lv_ishr hx hb dX5_leads_67 ?_
        refine lv_iconst (v := 1) hx hb dX5_leads_68 (by decide) ?_
        refine lv_iand hx hb dX5_leads_69 ?_
        refine lv_iconst (v := 1) hx hb dX5_leads_70 (by decide) ?_
        refine lv_icmp_ne (tgt := 78) hx hb dX5_leads_71 (by decide) (fun c_71 => ?_) (fun c_71 => ?_)
        · refine lv_iconst (v := 0) hx hb dX5_leads_78 (by decide) ?_
          exact hri _ rfl 0 _ _ _ _ _ (by decide) (⟨by rw [mx_ld, ← hE, ← hrr]; simp [mx_bit, fw_b, c_71], rfl⟩) hP hD hS dX5_leads_79
        · refine lv_iconst (v := 1) hx hb dX5_leads_74 (by decide) ?_
          refine lv_goto (tgt := 79) hx hb dX5_leads_75 (by decide) ?_
          exact hri _ rfl 1 _ _ _ _ _ (by decide) (⟨by rw [mx_ld, ← hE, ← hrr]; simp [mx_bit, fw_b, c_71], rfl⟩) hP hD hS dX5_leads_79
      · have hL : u < 6 := by
          have := fw_nlt (a := 6) c_9 (by omega) (by omega)
          omega
        refine lv_iload_n hx hb dX5_leads_12 rfl (lv_at hl 1 rfl) ?_
        refine lv_istore (lv' := [(5, .int rr), (4, .int (nI u)), (3, .int rr), (0, .ref (a 0)), (1, .int x1), (2, .int x2)]) hx hb dX5_leads_13 hl (by decide) rfl (fun ls hl => ?_)
        refine lv_iconst (v := 0) hx hb dX5_leads_15 (by decide) ?_
        refine lv_istore (lv' := [(6, .int 0), (5, .int rr), (4, .int (nI u)), (3, .int rr), (0, .ref (a 0)), (1, .int x1), (2, .int x2)]) hx hb dX5_leads_16 hl (by decide) rfl (fun ls hl => ?_)
        have lp_18 : ∀ (nf : Nat) (t : Nat) (r2 : Int32) (H : Heap) (locs : List Loc) (ls : Array Slot), 6 - t < nf → (t ≤ 6) → (r2 = fw_it (mx_ldS (mx_wo ow ru hd kd tb md dr nb bg) rr) t rr) → va_P G vwCl (wm a cB cI cZ ag (nI g) ow ru hd kd tb md lv dr nb bg (nI t0) (nI q) lr lb lh) H → va_D A (wm a cB cI cZ ag (nI g) ow ru hd kd tb md lv dr nb bg (nI t0) (nI q) lr lb lh) → va_S A s.heap H locs → lv_has ls 7 [(6, .int (nI t)), (5, .int r2), (4, .int (nI u)), (3, .int rr), (0, .ref (a 0)), (1, .int x1), (2, .int x2)] → W p l e rmX5_leads s m args below meth c H locs 0 0 Q (F0 m 18 ls []) := by
          intro nf
          induction nf with
          | zero => intro t r2 H locs ls h0; exact absurd h0 (Nat.not_lt_zero _)
          | succ nf_18 ih_18 =>
            intro t r2 H locs ls hn_18 ht hr2 hP hD hS hl
            refine lv_iload hx hb dX5_leads_18 (lv_at hl 0 rfl) ?_
            refine lv_bipush (v := 6) hx hb dX5_leads_20 (by decide) ?_
            refine lv_icmp_ge (tgt := 56) hx hb dX5_leads_22 (by decide) (fun c_22 => ?_) (fun c_22 => ?_)
            · have hE2 : t = 6 := by
                have := fw_nle (a := 6) c_22 (by omega) (by omega)
                omega
              refine lv_iload hx hb dX5_leads_56 (lv_at hl 1 rfl) ?_
              refine lv_istore_n (lv' := [(3, .int r2), (6, .int (nI t)), (5, .int r2), (4, .int (nI u)), (0, .ref (a 0)), (1, .int x1), (2, .int x2)]) hx hb dX5_leads_58 rfl hl (by decide) rfl (fun ls hl => ?_)
              refine lv_iinc (v := nI (u + 1)) (lv' := [(4, .int (nI (u + 1))), (3, .int r2), (6, .int (nI t)), (5, .int r2), (0, .ref (a 0)), (1, .int x1), (2, .int x2)]) hx hb dX5_leads_59 hl (k := 3) rfl (fw_inc _) (by decide) rfl (fun ls hl => ?_)
              refine lv_goto (tgt := 5) hx hb dX5_leads_62 (by decide) ?_
              exact ih_5 (u + 1) r2 _ _ _ (by omega) (by omega) (by rw [fw_itS, ← hrr, hr2, hE2]; rfl) hP hD hS (lv_sub hl [0, 1, 4, 5, 6] rfl)
            · have hL2 : t < 6 := by
                have := fw_nlt (a := 6) c_22 (by omega) (by omega)
                omega
              refine lv_iload hx hb dX5_leads_25 (lv_at hl 1 rfl) ?_
              refine lv_iload_n hx hb dX5_leads_27 rfl (lv_at hl 3 rfl) ?_
              refine lv_iload hx hb dX5_leads_28 (lv_at hl 0 rfl) ?_
              refine lv_ishr hx hb dX5_leads_30 ?_
              refine lv_iconst (v := 1) hx hb dX5_leads_31 (by decide) ?_
              refine lv_iand hx hb dX5_leads_32 ?_
              refine lv_iconst (v := 1) hx hb dX5_leads_33 (by decide) ?_
              refine lv_icmp_ne (tgt := 46) hx hb dX5_leads_34 (by decide) (fun c_34 => ?_) (fun c_34 => ?_)
              · refine lv_iconst (v := 0) hx hb dX5_leads_46 (by decide) ?_
                refine lv_ior hx hb dX5_leads_47 ?_
                refine lv_istore (lv' := [(5, .int (r2 ||| 0)), (6, .int (nI t)), (4, .int (nI u)), (3, .int rr), (0, .ref (a 0)), (1, .int x1), (2, .int x2)]) hx hb dX5_leads_48 hl (by decide) rfl (fun ls hl => ?_)
                refine lv_iinc (v := nI (t + 1)) (lv' := [(6, .int (nI (t + 1))), (5, .int (r2 ||| 0)), (4, .int (nI u)), (3, .int rr), (0, .ref (a 0)), (1, .int x1), (2, .int x2)]) hx hb dX5_leads_50 hl (k := 1) rfl (fw_inc _) (by decide) rfl (fun ls hl => ?_)
                refine lv_goto (tgt := 18) hx hb dX5_leads_53 (by decide) ?_
                exact ih_18 (t + 1) (r2 ||| 0) _ _ _ (by omega) (by omega) (by rw [fw_itS, ← hr2]; simp [mx_ldS, mx_bit, c_34]) hP hD hS (lv_sub hl [0, 1, 2, 3, 4, 5, 6] rfl)
              · refine lv_aload_n hx hb dX5_leads_37 rfl (lv_at hl 4 rfl) ?_
                refine lv_iload hx hb dX5_leads_38 (lv_at hl 0 rfl) ?_
                refine kV (As := [.int (nI t)]) (rest := [.int r2]) ⟨hx, hb, hml, hown, hts⟩ (c_X5_waitsOn l G cB cI cZ tc a ag ow ru hd kd tb md lv dr nb bg lr lb lh g t0 q t hL2 hI0) (cwV 1 hts gX5_leads_X5_waitsOn rfl rfl rfl (by decide +kernel) ⟨by decide, by decide⟩) hK hZ hA hP hD hS 0 5 rfl rfl rfl hl.1 rfl (Nat.le_of_ble_eq_true rfl) dX5_leads_40 ⟨Nat.zero_le _, Nat.zero_le _⟩ (fun v w' H locs hp hP hD hS => ?_)
                obtain ⟨rfl, rfl⟩ := hp
                have hP : va_P G vwCl (wm a cB cI cZ ag (nI g) ow ru hd kd tb md lv dr nb bg (nI t0) (nI q) lr lb lh) H := hP
                have hD : va_D A (wm a cB cI cZ ag (nI g) ow ru hd kd tb md lv dr nb bg (nI t0) (nI q) lr lb lh) := hD
                refine W.eq (g2 := F0 m 43 ls [.int (mx_wo ow ru hd kd tb md dr nb bg t), .int r2]) rfl ?_
                refine lv_goto (tgt := 47) hx hb dX5_leads_43 (by decide) ?_
                refine lv_ior hx hb dX5_leads_47 ?_
                refine lv_istore (lv' := [(5, .int (r2 ||| (mx_wo ow ru hd kd tb md dr nb bg t))), (6, .int (nI t)), (4, .int (nI u)), (3, .int rr), (0, .ref (a 0)), (1, .int x1), (2, .int x2)]) hx hb dX5_leads_48 hl (by decide) rfl (fun ls hl => ?_)
                refine lv_iinc (v := nI (t + 1)) (lv' := [(6, .int (nI (t + 1))), (5, .int (r2 ||| (mx_wo ow ru hd kd tb md dr nb bg t))), (4, .int (nI u)), (3, .int rr), (0, .ref (a 0)), (1, .int x1), (2, .int x2)]) hx hb dX5_leads_50 hl (k := 1) rfl (fw_inc _) (by decide) rfl (fun ls hl => ?_)
                refine lv_goto (tgt := 18) hx hb dX5_leads_53 (by decide) ?_
                exact ih_18 (t + 1) (r2 ||| (mx_wo ow ru hd kd tb md dr nb bg t)) _ _ _ (by omega) (by omega) (by rw [fw_itS, ← hr2]; simp [mx_ldS, mx_bit, c_34]) hP hD hS (lv_sub hl [0, 1, 2, 3, 4, 5, 6] rfl)
        exact lp_18 _ 0 rr _ _ _ (Nat.lt_succ_self _) (by omega) (rfl) hP hD hS (lv_sub hl [0, 1, 2, 3, 4, 5, 6] rfl)
  exact lp_5 _ 0 x1 _ _ _ (Nat.lt_succ_self _) (by omega) (rfl) hP hD hS (lv_sub hl [0, 1, 2, 3, 4] rfl)

abbrev rmX5_begin : Room := { frames := 0, cells := 0, slots := 0, locals := 0 }
set_option maxHeartbeats 4000000 in
set_option maxRecDepth 100000 in
theorem c_X5_begin (l : Launch) (G : va_G) (cB cI cZ : ClassId) (tc : Nat) (a : Nat → Nat) (ag ow ru hd kd tb md lv dr nb bg lr lb lh : Nat → Int32) (g : Nat) (t0 : Nat) (q : Nat) (x : Nat) (x2 : Int32) (hx6 : x < 6)  : KC l yX5_begin wsX5_begin rmX5_begin G [(cB, .byte), (cI, .int), (cZ, .boolean)] tc [.ref (a 0), .int (nI x), .int x2] (wm a cB cI cZ ag (nI g) ow ru hd kd tb md lv dr nb bg (nI t0) (nI q) lr lb lh) (fun v w' => v = none ∧ w' = (wm a cB cI cZ ag (nI g) ow ru hd (upd kd x x2) tb md lv dr nb (upd bg x (nI (t0 + 1))) (nI (t0 + 1)) (nI q) lr lb lh)) := by
  refine KC.of (cc := cX5_begin) (maxL := 3) (ret := none) (by decide) rfl (Nat.le_of_ble_eq_true rfl) ?_
  intro p e s m below meth c args A Q ls hx hb hml hown hts hK hZ hA hP hD hS hl hri hrv
  have hown : s.vm.findClass RX5 = some m.cls := hown
  have hl : lv_has ls 3 [(0, .ref (a 0)), (1, .int (nI x)), (2, .int x2)] := hl
  have fl_23 := hts (.fieldLink RX5 23 "LockDeskModel" "kind" "[I") (by decide +kernel)
  have fl_41 := hts (.fieldLink RX5 41 "LockDeskModel" "began" "[I") (by decide +kernel)
  have fl_83 := hts (.fieldLink RX5 83 "LockDeskModel" "time" "I") (by decide +kernel)
  have hin5 : ∀ w ∈ wsX50, w ∈ wsX5_begin := by decide +kernel
  refine lv_aload_n hx hb dX5_begin_0 rfl (lv_at hl 0 rfl) ?_
  refine va_get (D := G) (ci := 5) (v := .ref (a 5)) (C := RX5) (T := TX5) (N := 17) hx hb hts hin5 hown hK hP 0 rfl rfl 5 (by decide) fl_23 (fun _ h9 => h9) rfl dX5_begin_1 ?_
  refine lv_iload_n hx hb dX5_begin_4 rfl (lv_at hl 1 rfl) ?_
  refine lv_iload_n hx hb dX5_begin_5 rfl (lv_at hl 2 rfl) ?_
  refine fw_iast (j := x) (f := kd) (x := x2) hx hb hK hP hD hS 5 1 rfl rfl (by omega) (by decide) dX5_begin_6 (fun H locs hP hD hS => ?_)
  have hP : va_P G vwCl (wm a cB cI cZ ag (nI g) ow ru hd (upd kd x x2) tb md lv dr nb bg (nI t0) (nI q) lr lb lh) H := hP
  have hD : va_D A (wm a cB cI cZ ag (nI g) ow ru hd (upd kd x x2) tb md lv dr nb bg (nI t0) (nI q) lr lb lh) := hD
  refine lv_aload_n hx hb dX5_begin_7 rfl (lv_at hl 0 rfl) ?_
  refine lv_dup hx hb dX5_begin_8 rfl ?_
  refine va_get (D := G) (ci := 5) (v := .int (nI t0)) (C := RX5) (T := TX5) (N := 17) hx hb hts hin5 hown hK hP 0 rfl rfl 12 (by decide) fl_83 (fun _ h9 => h9) rfl dX5_begin_9 ?_
  refine lv_iconst (v := 1) hx hb dX5_begin_12 (by decide) ?_
  refine lv_iadd hx hb dX5_begin_13 ?_
  rw [nI_1 t0]
  refine va_put (D := G) (ci := 5) (v := .int (nI (t0 + 1))) (ty := .int) (C := RX5) (T := TX5) (N := 17) hx hb hts hin5 tyX5 tyX5_ok nmX5 hown hK hP hD hS 0 rfl rfl 12 (by decide) fl_83 (fun _ h9 => h9) rfl (by decide +kernel) rfl rfl (Nat.le_of_ble_eq_true rfl) dX5_begin_14 (fun H locs hP hD hS => ?_)
  have hP : va_P G vwCl (wm a cB cI cZ ag (nI g) ow ru hd (upd kd x x2) tb md lv dr nb bg (nI (t0 + 1)) (nI q) lr lb lh) H := hP
  have hD : va_D A (wm a cB cI cZ ag (nI g) ow ru hd (upd kd x x2) tb md lv dr nb bg (nI (t0 + 1)) (nI q) lr lb lh) := hD
  refine lv_aload_n hx hb dX5_begin_17 rfl (lv_at hl 0 rfl) ?_
  refine va_get (D := G) (ci := 5) (v := .ref (a 11)) (C := RX5) (T := TX5) (N := 17) hx hb hts hin5 hown hK hP 0 rfl rfl 11 (by decide) fl_41 (fun _ h9 => h9) rfl dX5_begin_18 ?_
  refine lv_iload_n hx hb dX5_begin_21 rfl (lv_at hl 1 rfl) ?_
  refine lv_aload_n hx hb dX5_begin_22 rfl (lv_at hl 0 rfl) ?_
  refine va_get (D := G) (ci := 5) (v := .int (nI (t0 + 1))) (C := RX5) (T := TX5) (N := 17) hx hb hts hin5 hown hK hP 0 rfl rfl 12 (by decide) fl_83 (fun _ h9 => h9) rfl dX5_begin_23 ?_
  refine fw_iast (j := x) (f := bg) (x := nI (t0 + 1)) hx hb hK hP hD hS 11 1 rfl rfl (by omega) (by decide) dX5_begin_26 (fun H locs hP hD hS => ?_)
  have hP : va_P G vwCl (wm a cB cI cZ ag (nI g) ow ru hd (upd kd x x2) tb md lv dr nb (upd bg x (nI (t0 + 1))) (nI (t0 + 1)) (nI q) lr lb lh) H := hP
  have hD : va_D A (wm a cB cI cZ ag (nI g) ow ru hd (upd kd x x2) tb md lv dr nb (upd bg x (nI (t0 + 1))) (nI (t0 + 1)) (nI q) lr lb lh) := hD
  exact hrv rfl _ _ _ _ _ (⟨rfl, rfl⟩) hP hD hS dX5_begin_27
