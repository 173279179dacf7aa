abbrev rmX5_number : Room := { frames := 2, cells := 0, slots := 0, locals := 42 }
set_option maxHeartbeats 4000000 in
set_option maxRecDepth 100000 in
theorem m_number_no (l : Launch) (G : va_G) (cB cI cZ : ClassId) (tc : Nat) (a : Nat → Nat) (ag ow ru hd kd tb md lv dr nb bg lr lb lh : Nat → Int32) (g : Nat) (t0 : Nat) (q : Nat) (x1 : Int32) (h : px_isS x1 = false) : KC l yX5_number wsX5_number rmX5_number G [(cB, .byte), (cI, .int), (cZ, .boolean)] tc [.ref (a 0), .int x1] (wm a cB cI cZ ag (nI g) ow ru hd kd tb md lv dr nb bg (nI t0) (nI q) lr lb lh) (fun v w' => v = some (.int (-1)) ∧ w' = (wm a cB cI cZ ag (nI g) ow ru hd kd tb md lv dr nb bg (nI t0) (nI q) lr lb lh)) := by
  refine KC.of (cc := cX5_number) (maxL := 2) (ret := some .int) (by decide) rfl (Nat.le_of_ble_eq_true rfl) ?_
  intro p e s m below meth c args A Q ls hx hb hml hown hts hK hZ hA hP hD hS hl hri hrv
  have hown : s.vm.findClass RX5 = some m.cls := hown
  have hl : lv_has ls 2 [(0, .ref (a 0)), (1, .int x1)] := hl
  have fl_13 := hts (.fieldLink RX5 13 "LockDeskModel" "owner" "[I") (by decide +kernel)
  have fl_16 := hts (.fieldLink RX5 16 "LockDeskModel" "runs" "[Z") (by decide +kernel)
  have fl_57 := hts (.fieldLink RX5 57 "LockDeskModel" "given" "I") (by decide +kernel)
  have hin5 : ∀ w ∈ wsX50, w ∈ wsX5_number := by decide +kernel
  refine lv_iload_n hx hb dX5_number_0 rfl (lv_at hl 1 rfl) ?_
  refine kS (As := [.int x1]) (rest := []) ⟨hx, hb, hml, hown, hts⟩ (c_X5_isSession l G [(cB, .byte), (cI, .int), (cZ, .boolean)] tc (wm a cB cI cZ ag (nI g) ow ru hd kd tb md lv dr nb bg (nI t0) (nI q) lr lb lh) x1) (va_cwS 1 hts gX5_number_X5_isSession rfl rfl rfl (by decide +kernel) ⟨by decide, by decide⟩) hK hZ hA hP hD hS rfl hl.1 rfl (Nat.le_of_ble_eq_true rfl) dX5_number_1 ⟨Nat.zero_le _, Nat.zero_le _⟩ (fun v w' H locs hp hP hD hS => ?_)
  obtain ⟨rfl, rfl⟩ := hp
  have hP : va_P G vwCl (wm a cB cI cZ ag (nI g) ow ru hd kd tb md lv dr nb bg (nI t0) (nI q) lr lb lh) H := hP
  have hD : va_D A (wm a cB cI cZ ag (nI g) ow ru hd kd tb md lv dr nb bg (nI t0) (nI q) lr lb lh) := hD
  refine W.eq (g2 := F0 m 4 ls [.int (fw_b (px_isS x1))]) rfl ?_
  refine lv_if_eq (tgt := 17) hx hb dX5_number_4 (by decide) (fun c_4 => ?_) (fun c_4 => False.elim (by rw [h] at c_4; exact c_4 rfl))
  have c_4 := fw_b0.mp c_4
  refine lv_iconst (v := (-1)) hx hb dX5_number_17 (by decide) ?_
  exact hri _ rfl (-1) _ _ _ _ _ (rfl) (⟨rfl, rfl⟩) hP hD hS dX5_number_18

set_option maxHeartbeats 4000000 in
set_option maxRecDepth 100000 in
theorem m_number_ok (l : Launch) (G : va_G) (cB cI cZ : ClassId) (tc : Nat) (a : Nat → Nat) (ag ow ru hd kd tb md lv dr nb bg lr lb lh : Nat → Int32) (g : Nat) (t0 : Nat) (q : Nat) (x : Nat) (hg : g < 4000) (hx6 : x < 6)  : KC l yX5_number wsX5_number rmX5_number G [(cB, .byte), (cI, .int), (cZ, .boolean)] tc [.ref (a 0), .int (nI x)] (wm a cB cI cZ ag (nI g) ow ru hd kd tb md lv dr nb bg (nI t0) (nI q) lr lb lh) (fun v w' => v = some (.int (nI (g + 1))) ∧ w' = (wm a cB cI cZ ag (nI (g + 1)) (upd ow (g + 1) (nI x)) (upd ru (g + 1) 1) hd kd tb md lv dr nb bg (nI t0) (nI q) lr lb lh)) := by
  refine KC.of (cc := cX5_number) (maxL := 2) (ret := some .int) (by decide) rfl (Nat.le_of_ble_eq_true rfl) ?_
  intro p e s m below meth c args A Q ls hx hb hml hown hts hK hZ hA hP hD hS hl hri hrv
  have hown : s.vm.findClass RX5 = some m.cls := hown
  have hl : lv_has ls 2 [(0, .ref (a 0)), (1, .int (nI x))] := hl
  have fl_13 := hts (.fieldLink RX5 13 "LockDeskModel" "owner" "[I") (by decide +kernel)
  have fl_16 := hts (.fieldLink RX5 16 "LockDeskModel" "runs" "[Z") (by decide +kernel)
  have fl_57 := hts (.fieldLink RX5 57 "LockDeskModel" "given" "I") (by decide +kernel)
  have hin5 : ∀ w ∈ wsX50, w ∈ wsX5_number := by decide +kernel
  refine lv_iload_n hx hb dX5_number_0 rfl (lv_at hl 1 rfl) ?_
  refine kS (As := [.int (nI x)]) (rest := []) ⟨hx, hb, hml, hown, hts⟩ (c_X5_isSession l G [(cB, .byte), (cI, .int), (cZ, .boolean)] tc (wm a cB cI cZ ag (nI g) ow ru hd kd tb md lv dr nb bg (nI t0) (nI q) lr lb lh) (nI x)) (va_cwS 1 hts gX5_number_X5_isSession rfl rfl rfl (by decide +kernel) ⟨by decide, by decide⟩) hK hZ hA hP hD hS rfl hl.1 rfl (Nat.le_of_ble_eq_true rfl) dX5_number_1 ⟨Nat.zero_le _, Nat.zero_le _⟩ (fun v w' H locs hp hP hD hS => ?_)
  obtain ⟨rfl, rfl⟩ := hp
  have hP : va_P G vwCl (wm a cB cI cZ ag (nI g) ow ru hd kd tb md lv dr nb bg (nI t0) (nI q) lr lb lh) H := hP
  have hD : va_D A (wm a cB cI cZ ag (nI g) ow ru hd kd tb md lv dr nb bg (nI t0) (nI q) lr lb lh) := hD
  refine W.eq (g2 := F0 m 4 ls [.int (fw_b (px_isS (nI x)))]) rfl ?_
  refine lv_if_eq (tgt := 17) hx hb dX5_number_4 (by decide) (fun c_4 => False.elim (by rw [px_isS_nI x hx6] at c_4; exact absurd c_4 (by decide))) (fun c_4 => ?_)
  have c_4 := fw_b1.mp c_4
  refine lv_aload_n hx hb dX5_number_7 rfl (lv_at hl 0 rfl) ?_
  refine va_get (D := G) (ci := 5) (v := .int (nI g)) (C := RX5) (T := TX5) (N := 17) hx hb hts hin5 hown hK hP 0 rfl rfl 1 (by decide) fl_57 (fun _ h9 => h9) rfl dX5_number_8 ?_
  refine lv_sipush (v := 4000) hx hb dX5_number_11 (by decide) ?_
  refine lv_icmp_ne (tgt := 19) hx hb dX5_number_14 (by decide) (fun c_14 => ?_) (fun c_14 => False.elim (by have := (nI_eq (b := 4000) (by omega) (by decide)).mp c_14; omega))
  refine lv_aload_n hx hb dX5_number_19 rfl (lv_at hl 0 rfl) ?_
  refine lv_dup hx hb dX5_number_20 rfl ?_
  refine va_get (D := G) (ci := 5) (v := .int (nI g)) (C := RX5) (T := TX5) (N := 17) hx hb hts hin5 hown hK hP 0 rfl rfl 1 (by decide) fl_57 (fun _ h9 => h9) rfl dX5_number_21 ?_
  refine lv_iconst (v := 1) hx hb dX5_number_24 (by decide) ?_
  refine lv_iadd hx hb dX5_number_25 ?_
  rw [nI_1 g]
  refine va_put (D := G) (ci := 5) (v := .int (nI (g + 1))) (ty := .int) (C := RX5) (T := TX5) (N := 17) hx hb hts hin5 tyX5 tyX5_ok nmX5 hown hK hP hD hS 0 rfl rfl 1 (by decide) fl_57 (fun _ h9 => h9) rfl (by decide +kernel) rfl rfl (Nat.le_of_ble_eq_true rfl) dX5_number_26 (fun H locs hP hD hS => ?_)
  have hP : va_P G vwCl (wm a cB cI cZ ag (nI (g + 1)) ow ru hd kd tb md lv dr nb bg (nI t0) (nI q) lr lb lh) H := hP
  have hD : va_D A (wm a cB cI cZ ag (nI (g + 1)) ow ru hd kd tb md lv dr nb bg (nI t0) (nI q) lr lb lh) := hD
  refine lv_aload_n hx hb dX5_number_29 rfl (lv_at hl 0 rfl) ?_
  refine va_get (D := G) (ci := 5) (v := .ref (a 2)) (C := RX5) (T := TX5) (N := 17) hx hb hts hin5 hown hK hP 0 rfl rfl 2 (by decide) fl_13 (fun _ h9 => h9) rfl dX5_number_30 ?_
  refine lv_aload_n hx hb dX5_number_33 rfl (lv_at hl 0 rfl) ?_
  refine va_get (D := G) (ci := 5) (v := .int (nI (g + 1))) (C := RX5) (T := TX5) (N := 17) hx hb hts hin5 hown hK hP 0 rfl rfl 1 (by decide) fl_57 (fun _ h9 => h9) rfl dX5_number_34 ?_
  refine lv_iload_n hx hb dX5_number_37 rfl (lv_at hl 1 rfl) ?_
  refine fw_iast (j := (g + 1)) (f := ow) (x := nI x) hx hb hK hP hD hS 2 1 rfl rfl (by omega) (by decide) dX5_number_38 (fun H locs hP hD hS => ?_)
  have hP : va_P G vwCl (wm a cB cI cZ ag (nI (g + 1)) (upd ow (g + 1) (nI x)) ru hd kd tb md lv dr nb bg (nI t0) (nI q) lr lb lh) H := hP
  have hD : va_D A (wm a cB cI cZ ag (nI (g + 1)) (upd ow (g + 1) (nI x)) ru hd kd tb md lv dr nb bg (nI t0) (nI q) lr lb lh) := hD
  refine lv_aload_n hx hb dX5_number_39 rfl (lv_at hl 0 rfl) ?_
  refine va_get (D := G) (ci := 5) (v := .ref (a 3)) (C := RX5) (T := TX5) (N := 17) hx hb hts hin5 hown hK hP 0 rfl rfl 3 (by decide) fl_16 (fun _ h9 => h9) rfl dX5_number_40 ?_
  refine lv_aload_n hx hb dX5_number_43 rfl (lv_at hl 0 rfl) ?_
  refine va_get (D := G) (ci := 5) (v := .int (nI (g + 1))) (C := RX5) (T := TX5) (N := 17) hx hb hts hin5 hown hK hP 0 rfl rfl 1 (by decide) fl_57 (fun _ h9 => h9) rfl dX5_number_44 ?_
  refine lv_iconst (v := 1) hx hb dX5_number_47 (by decide) ?_
  refine fw_zast (j := (g + 1)) (f := ru) (x := 1) hx hb hK hP hD hS 3 2 rfl rfl (by omega) (by decide) (by decide) dX5_number_48 (fun H locs hP hD hS => ?_)
  have hP : va_P G vwCl (wm a cB cI cZ ag (nI (g + 1)) (upd ow (g + 1) (nI x)) (upd ru (g + 1) 1) hd kd tb md lv dr nb bg (nI t0) (nI q) lr lb lh) H := hP
  have hD : va_D A (wm a cB cI cZ ag (nI (g + 1)) (upd ow (g + 1) (nI x)) (upd ru (g + 1) 1) hd kd tb md lv dr nb bg (nI t0) (nI q) lr lb lh) := hD
  refine lv_aload_n hx hb dX5_number_49 rfl (lv_at hl 0 rfl) ?_
  refine va_get (D := G) (ci := 5) (v := .int (nI (g + 1))) (C := RX5) (T := TX5) (N := 17) hx hb hts hin5 hown hK hP 0 rfl rfl 1 (by decide) fl_57 (fun _ h9 => h9) rfl dX5_number_50 ?_
  exact hri _ rfl (nI (g + 1)) _ _ _ _ _ (rfl) (⟨rfl, rfl⟩) hP hD hS dX5_number_53

abbrev rmX5_over : Room := { frames := 2, cells := 0, slots := 0, locals := 43 }
set_option maxHeartbeats 4000000 in
set_option maxRecDepth 100000 in
theorem m_over_no (l : Launch) (G : va_G) (cB cI cZ : ClassId) (tc : Nat) (a : Nat → Nat) (ag ow ru hd kd tb md lv dr nb bg lr lb lh : Nat → Int32) (g : Nat) (t0 : Nat) (q : Nat) (x1 : Int32) (hg : g < 4000) (h : mx_run g ru x1 = false) : KC l yX5_over wsX5_over rmX5_over G [(cB, .byte), (cI, .int), (cZ, .boolean)] tc [.ref (a 0), .int x1] (wm a cB cI cZ ag (nI g) ow ru hd kd tb md lv dr nb bg (nI t0) (nI q) lr lb lh) (fun v w' => v = some (.int (0)) ∧ w' = (wm a cB cI cZ ag (nI g) ow ru hd kd tb md lv dr nb bg (nI t0) (nI q) lr lb lh)) := by
  refine KC.of (cc := cX5_over) (maxL := 3) (ret := some .boolean) (by decide) rfl (Nat.le_of_ble_eq_true rfl) ?_
  intro p e s m below meth c args A Q ls hx hb hml hown hts hK hZ hA hP hD hS hl hri hrv
  have hown : s.vm.findClass RX5 = some m.cls := hown
  have hl : lv_has ls 3 [(0, .ref (a 0)), (1, .int x1)] := hl
  have fl_16 := hts (.fieldLink RX5 16 "LockDeskModel" "runs" "[Z") (by decide +kernel)
  have hin5 : ∀ w ∈ wsX50, w ∈ wsX5_over := by decide +kernel
  refine lv_aload_n hx hb dX5_over_0 rfl (lv_at hl 0 rfl) ?_
  refine lv_iload_n hx hb dX5_over_1 rfl (lv_at hl 1 rfl) ?_
  refine kV (As := [.int x1]) (rest := []) ⟨hx, hb, hml, hown, hts⟩ (c_X5_isRunning l G cB cI cZ tc a ag ow ru hd kd tb md lv dr nb bg lr lb lh g t0 q x1 hg) (cwV 1 hts gX5_over_X5_isRunning rfl rfl rfl (by decide +kernel) ⟨by decide, by decide⟩) hK hZ hA hP hD hS 0 5 rfl rfl rfl hl.1 rfl (Nat.le_of_ble_eq_true rfl) dX5_over_2 ⟨Nat.zero_le _, Nat.zero_le _⟩ (fun v w' H locs hp hP hD hS => ?_)
  obtain ⟨rfl, rfl⟩ := hp
  rw [h]
  have hP : va_P G vwCl (wm a cB cI cZ ag (nI g) ow ru hd kd tb md lv dr nb bg (nI t0) (nI q) lr lb lh) H := hP
  have hD : va_D A (wm a cB cI cZ ag (nI g) ow ru hd kd tb md lv dr nb bg (nI t0) (nI q) lr lb lh) := hD
  refine W.eq (g2 := F0 m 5 ls [.int 0]) rfl ?_
  refine lv_istore_n (lv' := [(2, .int 0), (0, .ref (a 0)), (1, .int x1)]) hx hb dX5_over_5 rfl hl (by decide) rfl (fun ls hl => ?_)
  refine lv_iload_n hx hb dX5_over_6 rfl (lv_at hl 0 rfl) ?_
  refine lv_if_eq (tgt := 17) hx hb dX5_over_7 (by decide) (fun _ => ?_) (fun z9 => absurd z9 (by decide))
  refine lv_iload_n hx hb dX5_over_17 rfl (lv_at hl 0 rfl) ?_
  exact hri _ rfl 0 _ _ _ _ _ (by decide) (⟨rfl, rfl⟩) hP hD hS dX5_over_18

set_option maxHeartbeats 4000000 in
set_option maxRecDepth 100000 in
theorem m_over_ok (l : Launch) (G : va_G) (cB cI cZ : ClassId) (tc : Nat) (a : Nat → Nat) (ag ow ru hd kd tb md lv dr nb bg lr lb lh : Nat → Int32) (g : Nat) (t0 : Nat) (q : Nat) (k : Nat) (hg : g < 4000) (hk1 : 1 ≤ k) (hk2 : k ≤ g) (h : ¬ ru k = 0) : KC l yX5_over wsX5_over rmX5_over G [(cB, .byte), (cI, .int), (cZ, .boolean)] tc [.ref (a 0), .int (nI k)] (wm a cB cI cZ ag (nI g) ow ru hd kd tb md lv dr nb bg (nI t0) (nI q) lr lb lh) (fun v w' => v = some (.int (1)) ∧ w' = (wm a cB cI cZ ag (nI g) ow (upd ru k 0) hd kd tb md lv dr nb bg (nI t0) (nI q) lr lb lh)) := by
  refine KC.of (cc := cX5_over) (maxL := 3) (ret := some .boolean) (by decide) rfl (Nat.le_of_ble_eq_true rfl) ?_
  intro p e s m below meth c args A Q ls hx hb hml hown hts hK hZ hA hP hD hS hl hri hrv
  have hown : s.vm.findClass RX5 = some m.cls := hown
  have hl : lv_has ls 3 [(0, .ref (a 0)), (1, .int (nI k))] := hl
  have fl_16 := hts (.fieldLink RX5 16 "LockDeskModel" "runs" "[Z") (by decide +kernel)
  have hin5 : ∀ w ∈ wsX50, w ∈ wsX5_over := by decide +kernel
  refine lv_aload_n hx hb dX5_over_0 rfl (lv_at hl 0 rfl) ?_
  refine lv_iload_n hx hb dX5_over_1 rfl (lv_at hl 1 rfl) ?_
  refine kV (As := [.int (nI k)]) (rest := []) ⟨hx, hb, hml, hown, hts⟩ (c_X5_isRunning l G cB cI cZ tc a ag ow ru hd kd tb md lv dr nb bg lr lb lh g t0 q (nI k) hg) (cwV 1 hts gX5_over_X5_isRunning rfl rfl rfl (by decide +kernel) ⟨by decide, by decide⟩) hK hZ hA hP hD hS 0 5 rfl rfl rfl hl.1 rfl (Nat.le_of_ble_eq_true rfl) dX5_over_2 ⟨Nat.zero_le _, Nat.zero_le _⟩ (fun v w' H locs hp hP hD hS => ?_)
  obtain ⟨rfl, rfl⟩ := hp
  rw [mx_run_nI (by omega) hk1 hk2, decide_eq_false h]
  have hP : va_P G vwCl (wm a cB cI cZ ag (nI g) ow ru hd kd tb md lv dr nb bg (nI t0) (nI q) lr lb lh) H := hP
  have hD : va_D A (wm a cB cI cZ ag (nI g) ow ru hd kd tb md lv dr nb bg (nI t0) (nI q) lr lb lh) := hD
  refine W.eq (g2 := F0 m 5 ls [.int 1]) rfl ?_
  refine lv_istore_n (lv' := [(2, .int 1), (0, .ref (a 0)), (1, .int (nI k))]) hx hb dX5_over_5 rfl hl (by decide) rfl (fun ls hl => ?_)
  refine lv_iload_n hx hb dX5_over_6 rfl (lv_at hl 0 rfl) ?_
  refine lv_if_eq (tgt := 17) hx hb dX5_over_7 (by decide) (fun z9 => absurd z9 (by decide)) (fun _ => ?_)
  refine lv_aload_n hx hb dX5_over_10 rfl (lv_at hl 1 rfl) ?_
  refine va_get (D := G) (ci := 5) (v := .ref (a 3)) (C := RX5) (T := TX5) (N := 17) hx hb hts hin5 hown hK hP 0 rfl rfl 3 (by decide) fl_16 (fun _ h9 => h9) rfl dX5_over_11 ?_
  refine lv_iload_n hx hb dX5_over_14 rfl (lv_at hl 2 rfl) ?_
  refine lv_iconst (v := 0) hx hb dX5_over_15 (by decide) ?_
  refine fw_zast (j := k) (f := ru) (x := 0) hx hb hK hP hD hS 3 2 rfl rfl (by omega) (by decide) (by decide) dX5_over_16 (fun H locs hP hD hS => ?_)
  have hP : va_P G vwCl (wm a cB cI cZ ag (nI g) ow (upd ru k 0) hd kd tb md lv dr nb bg (nI t0) (nI q) lr lb lh) H := hP
  have hD : va_D A (wm a cB cI cZ ag (nI g) ow (upd ru k 0) hd kd tb md lv dr nb bg (nI t0) (nI q) lr lb lh) := hD
  refine lv_iload_n hx hb dX5_over_17 rfl (lv_at hl 0 rfl) ?_
  exact hri _ rfl 1 _ _ _ _ _ (by decide) (⟨rfl, rfl⟩) hP hD hS dX5_over_18

abbrev rmX5_ask : Room := { frames := 5, cells := 0, slots := 0, locals := 121 }
set_option maxHeartbeats 4000000 in
set_option maxRecDepth 100000 in
theorem m_ask_no (l : Launch) (G : va_G) (cB cI cZ : ClassId) (tc : Nat) (a : Nat → Nat) (ag ow ru hd kd tb md lv dr nb bg lr lb lh : Nat → Int32) (g : Nat) (t0 : Nat) (q : Nat) (x1 : Int32) (x2 : Int32) (x3 : Int32) (x4 : Int32) (h : (px_isS x1 && px_isT x2 && px_isT x3 && px_isM x4) = false) : KC l yX5_ask wsX5_ask rmX5_ask G [(cB, .byte), (cI, .int), (cZ, .boolean)] tc [.ref (a 0), .int x1, .int x2, .int x3, .int x4] (wm a cB cI cZ ag (nI g) ow ru hd kd tb md lv dr nb bg (nI t0) (nI q) lr lb lh) (fun v w' => v = some (.int (-1)) ∧ w' = (wm a cB cI cZ ag (nI g) ow ru hd kd tb md lv dr nb bg (nI t0) (nI q) lr lb lh)) := by
  refine KC.of (cc := cX5_ask) (maxL := 7) (ret := some .int) (by decide) rfl (Nat.le_of_ble_eq_true rfl) ?_
  intro p e s m below meth c args A Q ls hx hb hml hown hts hK hZ hA hP hD hS hl hri hrv
  have hown : s.vm.findClass RX5 = some m.cls := hown
  have hl : lv_has ls 7 [(0, .ref (a 0)), (1, .int x1), (2, .int x2), (3, .int x3), (4, .int x4)] := hl
  have fl_20 := hts (.fieldLink RX5 20 "LockDeskModel" "held" "[I") (by decide +kernel)
  have fl_23 := hts (.fieldLink RX5 23 "LockDeskModel" "kind" "[I") (by decide +kernel)
  have fl_26 := hts (.fieldLink RX5 26 "LockDeskModel" "table" "[I") (by decide +kernel)
  have fl_29 := hts (.fieldLink RX5 29 "LockDeskModel" "mode" "[I") (by decide +kernel)
  have fl_32 := hts (.fieldLink RX5 32 "LockDeskModel" "level" "[I") (by decide +kernel)
  have fl_35 := hts (.fieldLink RX5 35 "LockDeskModel" "dropped" "[Z") (by decide +kernel)
  have fl_83 := hts (.fieldLink RX5 83 "LockDeskModel" "time" "I") (by decide +kernel)
  have hin5 : ∀ w ∈ wsX50, w ∈ wsX5_ask := by decide +kernel
  refine lv_iload_n hx hb dX5_ask_0 rfl (lv_at hl 1 rfl) ?_
  refine kS (As := [.int x1]) (rest := []) ⟨hx, hb, hml, hown, hts⟩ (c_X5_isSession l G [(cB, .byte), (cI, .int), (cZ, .boolean)] tc (wm a cB cI cZ ag (nI g) ow ru hd kd tb md lv dr nb bg (nI t0) (nI q) lr lb lh) x1) (va_cwS 1 hts gX5_ask_X5_isSession rfl rfl rfl (by decide +kernel) ⟨by decide, by decide⟩) hK hZ hA hP hD hS rfl hl.1 rfl (Nat.le_of_ble_eq_true rfl) dX5_ask_1 ⟨Nat.zero_le _, Nat.zero_le _⟩ (fun v w' H locs hp hP hD hS => ?_)
  obtain ⟨rfl, rfl⟩ := hp
  have hP : va_P G vwCl (wm a cB cI cZ ag (nI g) ow ru hd kd tb md lv dr nb bg (nI t0) (nI q) lr lb lh) H := hP
  have hD : va_D A (wm a cB cI cZ ag (nI g) ow ru hd kd tb md lv dr nb bg (nI t0) (nI q) lr lb lh) := hD
  refine W.eq (g2 := F0 m 4 ls [.int (fw_b (px_isS x1))]) rfl ?_
  refine lv_if_eq (tgt := 47) hx hb dX5_ask_4 (by decide) (fun c_4 => ?_) (fun c_4 => ?_)
  · have c_4 := fw_b0.mp c_4
    refine lv_iconst (v := (-1)) hx hb dX5_ask_47 (by decide) ?_
    exact hri _ rfl (-1) _ _ _ _ _ (rfl) (⟨rfl, rfl⟩) hP hD hS dX5_ask_48
  · have c_4 := fw_b1.mp c_4
    refine lv_iload_n hx hb dX5_ask_7 rfl (lv_at hl 2 rfl) ?_
    refine lv_iconst (v := 0) hx hb dX5_ask_8 (by decide) ?_
    refine lv_bipush (v := 7) hx hb dX5_ask_9 (by decide) ?_
    refine kS (As := [.int x2, .int 0, .int 7]) (rest := []) ⟨hx, hb, hml, hown, hts⟩ (c_X5_in l G [(cB, .byte), (cI, .int), (cZ, .boolean)] tc (wm a cB cI cZ ag (nI g) ow ru hd kd tb md lv dr nb bg (nI t0) (nI q) lr lb lh) x2 0 7) (va_cwS 3 hts gX5_ask_X5_in rfl rfl rfl (by decide +kernel) ⟨by decide, by decide⟩) hK hZ hA hP hD hS rfl hl.1 rfl (Nat.le_of_ble_eq_true rfl) dX5_ask_11 ⟨Nat.zero_le _, Nat.zero_le _⟩ (fun v w' H locs hp hP hD hS => ?_)
    obtain ⟨rfl, rfl⟩ := hp
    rw [mx_inT]
    have hP : va_P G vwCl (wm a cB cI cZ ag (nI g) ow ru hd kd tb md lv dr nb bg (nI t0) (nI q) lr lb lh) H := hP
    have hD : va_D A (wm a cB cI cZ ag (nI g) ow ru hd kd tb md lv dr nb bg (nI t0) (nI q) lr lb lh) := hD
    refine W.eq (g2 := F0 m 14 ls [.int (fw_b (px_isT x2))]) rfl ?_
    refine lv_if_eq (tgt := 47) hx hb dX5_ask_14 (by decide) (fun c_14 => ?_) (fun c_14 => ?_)
    · have c_14 := fw_b0.mp c_14
      refine lv_iconst (v := (-1)) hx hb dX5_ask_47 (by decide) ?_
      exact hri _ rfl (-1) _ _ _ _ _ (rfl) (⟨rfl, rfl⟩) hP hD hS dX5_ask_48
    · have c_14 := fw_b1.mp c_14
      refine lv_iload_n hx hb dX5_ask_17 rfl (lv_at hl 3 rfl) ?_
      refine lv_iconst (v := 0) hx hb dX5_ask_18 (by decide) ?_
      refine lv_bipush (v := 7) hx hb dX5_ask_19 (by decide) ?_
      refine kS (As := [.int x3, .int 0, .int 7]) (rest := []) ⟨hx, hb, hml, hown, hts⟩ (c_X5_in l G [(cB, .byte), (cI, .int), (cZ, .boolean)] tc (wm a cB cI cZ ag (nI g) ow ru hd kd tb md lv dr nb bg (nI t0) (nI q) lr lb lh) x3 0 7) (va_cwS 3 hts gX5_ask_X5_in rfl rfl rfl (by decide +kernel) ⟨by decide, by decide⟩) hK hZ hA hP hD hS rfl hl.1 rfl (Nat.le_of_ble_eq_true rfl) dX5_ask_21 ⟨Nat.zero_le _, Nat.zero_le _⟩ (fun v w' H locs hp hP hD hS => ?_)
      obtain ⟨rfl, rfl⟩ := hp
      rw [mx_inT]
      have hP : va_P G vwCl (wm a cB cI cZ ag (nI g) ow ru hd kd tb md lv dr nb bg (nI t0) (nI q) lr lb lh) H := hP
      have hD : va_D A (wm a cB cI cZ ag (nI g) ow ru hd kd tb md lv dr nb bg (nI t0) (nI q) lr lb lh) := hD
      refine W.eq (g2 := F0 m 24 ls [.int (fw_b (px_isT x3))]) rfl ?_
      refine lv_if_eq (tgt := 47) hx hb dX5_ask_24 (by decide) (fun c_24 => ?_) (fun c_24 => ?_)
      · have c_24 := fw_b0.mp c_24
        refine lv_iconst (v := (-1)) hx hb dX5_ask_47 (by decide) ?_
        exact hri _ rfl (-1) _ _ _ _ _ (rfl) (⟨rfl, rfl⟩) hP hD hS dX5_ask_48
      · have c_24 := fw_b1.mp c_24
        refine lv_iload hx hb dX5_ask_27 (lv_at hl 4 rfl) ?_
        refine lv_iconst (v := 1) hx hb dX5_ask_29 (by decide) ?_
        refine lv_bipush (v := 8) hx hb dX5_ask_30 (by decide) ?_
        refine kS (As := [.int x4, .int 1, .int 8]) (rest := []) ⟨hx, hb, hml, hown, hts⟩ (c_X5_in l G [(cB, .byte), (cI, .int), (cZ, .boolean)] tc (wm a cB cI cZ ag (nI g) ow ru hd kd tb md lv dr nb bg (nI t0) (nI q) lr lb lh) x4 1 8) (va_cwS 3 hts gX5_ask_X5_in rfl rfl rfl (by decide +kernel) ⟨by decide, by decide⟩) hK hZ hA hP hD hS rfl hl.1 rfl (Nat.le_of_ble_eq_true rfl) dX5_ask_32 ⟨Nat.zero_le _, Nat.zero_le _⟩ (fun v w' H locs hp hP hD hS => ?_)
        obtain ⟨rfl, rfl⟩ := hp
        have hP : va_P G vwCl (wm a cB cI cZ ag (nI g) ow ru hd kd tb md lv dr nb bg (nI t0) (nI q) lr lb lh) H := hP
        have hD : va_D A (wm a cB cI cZ ag (nI g) ow ru hd kd tb md lv dr nb bg (nI t0) (nI q) lr lb lh) := hD
        refine W.eq (g2 := F0 m 35 ls [.int (fw_b (px_isM x4))]) rfl ?_
        refine lv_if_eq (tgt := 47) hx hb dX5_ask_35 (by decide) (fun c_35 => ?_) (fun c_35 => False.elim (by have c_35 := fw_b1.mp c_35; simp [c_4, c_14, c_24, c_35] at h))
        have c_35 := fw_b0.mp c_35
        refine lv_iconst (v := (-1)) hx hb dX5_ask_47 (by decide) ?_
        exact hri _ rfl (-1) _ _ _ _ _ (rfl) (⟨rfl, rfl⟩) hP hD hS dX5_ask_48

set_option maxHeartbeats 4000000 in
set_option maxRecDepth 100000 in
theorem m_ask_ok (l : Launch) (G : va_G) (cB cI cZ : ClassId) (tc : Nat) (a : Nat → Nat) (ag ow ru hd kd tb md lv dr nb bg lr lb lh : Nat → Int32) (g : Nat) (t0 : Nat) (q : Nat) (x : Nat) (z : Nat) (y : Nat) (k : Nat) (hx6 : x < 6) (hz8 : z < 8) (hy8 : y < 8) (hk8 : k < 8) (hI : mx_I g t0 ag ow tb md lv dr nb bg) : KC l yX5_ask wsX5_ask rmX5_ask G [(cB, .byte), (cI, .int), (cZ, .boolean)] tc [.ref (a 0), .int (nI x), .int (nI z), .int (nI y), .int (nI (k + 1))] (wm a cB cI cZ ag (nI g) ow ru hd kd tb md lv dr nb bg (nI t0) (nI q) lr lb lh) (fun v w' => if ¬ kd x = 0 then v = some (.int (-1)) ∧ w' = (wm a cB cI cZ ag (nI g) ow ru hd kd tb md lv dr nb bg (nI t0) (nI q) lr lb lh) else if ¬ hd (72 * x + 9 * y + (k + 1)) ≤ 0 then v = some (.int 0) ∧ w' = (wm a cB cI cZ ag (nI g) ow ru hd kd tb md lv dr nb bg (nI t0) (nI q) lr lb lh) else if mx_way hd kd tb md dr bg x y (k + 1) (nI (t0 + 1)) = 0 then v = some (.int 0) ∧ w' = (wm a cB cI cZ ag (nI g) ow ru (upd hd (72 * x + 9 * y + (k + 1)) (nI (z + 1))) kd tb md lv dr nb bg (nI t0) (nI q) lr lb lh) else if mx_ld (mx_wo ow ru hd kd tb md dr nb bg) (mx_way hd kd tb md dr bg x y (k + 1) (nI (t0 + 1))) (nI x) = true then v = some (.int 2) ∧ w' = (wm a cB cI cZ ag (nI g) ow ru hd kd tb md lv dr nb bg (nI t0) (nI q) lr lb lh) else v = some (.int 1) ∧ w' = (wm a cB cI cZ ag (nI g) ow ru hd (upd kd x 1) (upd tb x (nI y)) (upd md x (nI (k + 1))) (upd lv x (nI z)) (upd dr x 0) nb (upd bg x (nI (t0 + 1))) (nI (t0 + 1)) (nI q) lr lb lh)) := by
  refine KC.of (cc := cX5_ask) (maxL := 7) (ret := some .int) (by decide) rfl (Nat.le_of_ble_eq_true rfl) ?_
  intro p e s m below meth c args A Q ls hx hb hml hown hts hK hZ hA hP hD hS hl hri hrv
  have hown : s.vm.findClass RX5 = some m.cls := hown
  have hl : lv_has ls 7 [(0, .ref (a 0)), (1, .int (nI x)), (2, .int (nI z)), (3, .int (nI y)), (4, .int (nI (k + 1)))] := hl
  have fl_20 := hts (.fieldLink RX5 20 "LockDeskModel" "held" "[I") (by decide +kernel)
  have fl_23 := hts (.fieldLink RX5 23 "LockDeskModel" "kind" "[I") (by decide +kernel)
  have fl_26 := hts (.fieldLink RX5 26 "LockDeskModel" "table" "[I") (by decide +kernel)
  have fl_29 := hts (.fieldLink RX5 29 "LockDeskModel" "mode" "[I") (by decide +kernel)
  have fl_32 := hts (.fieldLink RX5 32 "LockDeskModel" "level" "[I") (by decide +kernel)
  have fl_35 := hts (.fieldLink RX5 35 "LockDeskModel" "dropped" "[Z") (by decide +kernel)
  have fl_83 := hts (.fieldLink RX5 83 "LockDeskModel" "time" "I") (by decide +kernel)
  have hin5 : ∀ w ∈ wsX50, w ∈ wsX5_ask := by decide +kernel
  have hI0 := hI
  obtain ⟨hg, ht0, hag, how, htb, hmd, hdr, hlv, hnb, hbg⟩ := hI
  refine lv_iload_n hx hb dX5_ask_0 rfl (lv_at hl 1 rfl) ?_
  refine kS (As := [.int (nI x)]) (rest := []) ⟨hx, hb, hml, hown, hts⟩ (c_X5_isSession l G [(cB, .byte), (cI, .int), (cZ, .boolean)] tc (wm a cB cI cZ ag (nI g) ow ru hd kd tb md lv dr nb bg (nI t0) (nI q) lr lb lh) (nI x)) (va_cwS 1 hts gX5_ask_X5_isSession rfl rfl rfl (by decide +kernel) ⟨by decide, by decide⟩) hK hZ hA hP hD hS rfl hl.1 rfl (Nat.le_of_ble_eq_true rfl) dX5_ask_1 ⟨Nat.zero_le _, Nat.zero_le _⟩ (fun v w' H locs hp hP hD hS => ?_)
  obtain ⟨rfl, rfl⟩ := hp
  have hP : va_P G vwCl (wm a cB cI cZ ag (nI g) ow ru hd kd tb md lv dr nb bg (nI t0) (nI q) lr lb lh) H := hP
  have hD : va_D A (wm a cB cI cZ ag (nI g) ow ru hd kd tb md lv dr nb bg (nI t0) (nI q) lr lb lh) := hD
  refine W.eq (g2 := F0 m 4 ls [.int (fw_b (px_isS (nI x)))]) rfl ?_
  refine lv_if_eq (tgt := 47) hx hb dX5_ask_4 (by decide) (fun c_4 => False.elim (by rw [px_isS_nI x hx6] at c_4; exact absurd c_4 (by decide))) (fun c_4 => ?_)
  have c_4 := fw_b1.mp c_4
  refine lv_iload_n hx hb dX5_ask_7 rfl (lv_at hl 2 rfl) ?_
  refine lv_iconst (v := 0) hx hb dX5_ask_8 (by decide) ?_
  refine lv_bipush (v := 7) hx hb dX5_ask_9 (by decide) ?_
  refine kS (As := [.int (nI z), .int 0, .int 7]) (rest := []) ⟨hx, hb, hml, hown, hts⟩ (c_X5_in l G [(cB, .byte), (cI, .int), (cZ, .boolean)] tc (wm a cB cI cZ ag (nI g) ow ru hd kd tb md lv dr nb bg (nI t0) (nI q) lr lb lh) (nI z) 0 7) (va_cwS 3 hts gX5_ask_X5_in rfl rfl rfl (by decide +kernel) ⟨by decide, by decide⟩) hK hZ hA hP hD hS rfl hl.1 rfl (Nat.le_of_ble_eq_true rfl) dX5_ask_11 ⟨Nat.zero_le _, Nat.zero_le _⟩ (fun v w' H locs hp hP hD hS => ?_)
  obtain ⟨rfl, rfl⟩ := hp
  rw [mx_inT]
  have hP : va_P G vwCl (wm a cB cI cZ ag (nI g) ow ru hd kd tb md lv dr nb bg (nI t0) (nI q) lr lb lh) H := hP
  have hD : va_D A (wm a cB cI cZ ag (nI g) ow ru hd kd tb md lv dr nb bg (nI t0) (nI q) lr lb lh) := hD
  refine W.eq (g2 := F0 m 14 ls [.int (fw_b (px_isT (nI z)))]) rfl ?_
  refine lv_if_eq (tgt := 47) hx hb dX5_ask_14 (by decide) (fun c_14 => False.elim (by rw [px_isT_nI z hz8] at c_14; exact absurd c_14 (by decide))) (fun c_14 => ?_)
  have c_14 := fw_b1.mp c_14
  refine lv_iload_n hx hb dX5_ask_17 rfl (lv_at hl 3 rfl) ?_
  refine lv_iconst (v := 0) hx hb dX5_ask_18 (by decide) ?_
  refine lv_bipush (v := 7) hx hb dX5_ask_19 (by decide) ?_
  refine kS (As := [.int (nI y), .int 0, .int 7]) (rest := []) ⟨hx, hb, hml, hown, hts⟩ (c_X5_in l G [(cB, .byte), (cI, .int), (cZ, .boolean)] tc (wm a cB cI cZ ag (nI g) ow ru hd kd tb md lv dr nb bg (nI t0) (nI q) lr lb lh) (nI y) 0 7) (va_cwS 3 hts gX5_ask_X5_in rfl rfl rfl (by decide +kernel) ⟨by decide, by decide⟩) hK hZ hA hP hD hS rfl hl.1 rfl (Nat.le_of_ble_eq_true rfl) dX5_ask_21 ⟨Nat.zero_le _, Nat.zero_le _⟩ (fun v w' H locs hp hP hD hS => ?_)
  obtain ⟨rfl, rfl⟩ := hp
  rw [mx_inT]
  have hP : va_P G vwCl (wm a cB cI cZ ag (nI g) ow ru hd kd tb md lv dr nb bg (nI t0) (nI q) lr lb lh) H := hP
  have hD : va_D A (wm a cB cI cZ ag (nI g) ow ru hd kd tb md lv dr nb bg (nI t0) (nI q) lr lb lh) := hD
  refine W.eq (g2 := F0 m 24 ls [.int (fw_b (px_isT (nI y)))]) rfl ?_
  refine lv_if_eq (tgt := 47) hx hb dX5_ask_24 (by decide) (fun c_24 => False.elim (by rw [px_isT_nI y hy8] at c_24; exact absurd c_24 (by decide))) (fun c_24 => ?_)
  have c_24 := fw_b1.mp c_24
  refine lv_iload hx hb dX5_ask_27 (lv_at hl 4 rfl) ?_
  refine lv_iconst (v := 1) hx hb dX5_ask_29 (by decide) ?_
  refine lv_bipush (v := 8) hx hb dX5_ask_30 (by decide) ?_
  refine kS (As := [.int (nI (k + 1)), .int 1, .int 8]) (rest := []) ⟨hx, hb, hml, hown, hts⟩ (c_X5_in l G [(cB, .byte), (cI, .int), (cZ, .boolean)] tc (wm a cB cI cZ ag (nI g) ow ru hd kd tb md lv dr nb bg (nI t0) (nI q) lr lb lh) (nI (k + 1)) 1 8) (va_cwS 3 hts gX5_ask_X5_in rfl rfl rfl (by decide +kernel) ⟨by decide, by decide⟩) hK hZ hA hP hD hS rfl hl.1 rfl (Nat.le_of_ble_eq_true rfl) dX5_ask_32 ⟨Nat.zero_le _, Nat.zero_le _⟩ (fun v w' H locs hp hP hD hS => ?_)
  obtain ⟨rfl, rfl⟩ := hp
  have hP : va_P G vwCl (wm a cB cI cZ ag (nI g) ow ru hd kd tb md lv dr nb bg (nI t0) (nI q) lr lb lh) H := hP
  have hD : va_D A (wm a cB cI cZ ag (nI g) ow ru hd kd tb md lv dr nb bg (nI t0) (nI q) lr lb lh) := hD
  refine W.eq (g2 := F0 m 35 ls [.int (fw_b (px_isM (nI (k + 1))))]) rfl ?_
  refine lv_if_eq (tgt := 47) hx hb dX5_ask_35 (by decide) (fun c_35 => False.elim (by rw [px_isM_nI k hk8] at c_35; exact absurd c_35 (by decide))) (fun c_35 => ?_)
  have c_35 := fw_b1.mp c_35
  refine lv_aload_n hx hb dX5_ask_38 rfl (lv_at hl 0 rfl) ?_
  refine va_get (D := G) (ci := 5) (v := .ref (a 5)) (C := RX5) (T := TX5) (N := 17) hx hb hts hin5 hown hK hP 0 rfl rfl 5 (by decide) fl_23 (fun _ h9 => h9) rfl dX5_ask_39 ?_
  refine lv_iload_n hx hb dX5_ask_42 rfl (lv_at hl 1 rfl) ?_
  refine fw_iald (j := x) (f := kd) hx hb hK hP 5 1 rfl rfl (by omega) (by decide) dX5_ask_43 ?_
  refine lv_if_eq (tgt := 49) hx hb dX5_ask_44 (by decide) (fun c_44 => ?_) (fun c_44 => ?_)
  · refine lv_bipush (v := 72) hx hb dX5_ask_49 (by decide) ?_
    refine lv_iload_n hx hb dX5_ask_51 rfl (lv_at hl 1 rfl) ?_
    refine lv_imul hx hb dX5_ask_52 ?_
    refine lv_bipush (v := 9) hx hb dX5_ask_53 (by decide) ?_
    refine lv_iload_n hx hb dX5_ask_55 rfl (lv_at hl 3 rfl) ?_
    refine lv_imul hx hb dX5_ask_56 ?_
    refine lv_iadd hx hb dX5_ask_57 ?_
    refine lv_iload hx hb dX5_ask_58 (lv_at hl 4 rfl) ?_
    refine lv_iadd hx hb dX5_ask_60 ?_
    rw [mx_ix]
    refine lv_istore (lv' := [(5, .int (nI (72 * x + 9 * y + (k + 1)))), (0, .ref (a 0)), (1, .int (nI x)), (2, .int (nI z)), (3, .int (nI y)), (4, .int (nI (k + 1)))]) hx hb dX5_ask_61 hl (by decide) rfl (fun ls hl => ?_)
    refine lv_aload_n hx hb dX5_ask_63 rfl (lv_at hl 1 rfl) ?_
    refine va_get (D := G) (ci := 5) (v := .ref (a 4)) (C := RX5) (T := TX5) (N := 17) hx hb hts hin5 hown hK hP 0 rfl rfl 4 (by decide) fl_20 (fun _ h9 => h9) rfl dX5_ask_64 ?_
    refine lv_iload hx hb dX5_ask_67 (lv_at hl 0 rfl) ?_
    refine fw_iald (j := (72 * x + 9 * y + (k + 1))) (f := hd) hx hb hK hP 4 1 rfl rfl (by omega) (by decide) dX5_ask_69 ?_
    refine lv_if_le (tgt := 75) hx hb dX5_ask_70 (by decide) (fun c_70 => ?_) (fun c_70 => ?_)
    · refine lv_aload_n hx hb dX5_ask_75 rfl (lv_at hl 1 rfl) ?_
      refine lv_iload_n hx hb dX5_ask_76 rfl (lv_at hl 2 rfl) ?_
      refine lv_iload_n hx hb dX5_ask_77 rfl (lv_at hl 4 rfl) ?_
      refine lv_iload hx hb dX5_ask_78 (lv_at hl 5 rfl) ?_
      refine lv_aload_n hx hb dX5_ask_80 rfl (lv_at hl 1 rfl) ?_
      refine va_get (D := G) (ci := 5) (v := .int (nI t0)) (C := RX5) (T := TX5) (N := 17) hx hb hts hin5 hown hK hP 0 rfl rfl 12 (by decide) fl_83 (fun _ h9 => h9) rfl dX5_ask_81 ?_
      refine lv_iconst (v := 1) hx hb dX5_ask_84 (by decide) ?_
      refine lv_iadd hx hb dX5_ask_85 ?_
      rw [nI_1 t0]
      refine kV (As := [.int (nI x), .int (nI y), .int (nI (k + 1)), .int (nI (t0 + 1))]) (rest := []) ⟨hx, hb, hml, hown, hts⟩ (c_X5_inTheWay l G cB cI cZ tc a ag ow ru hd kd tb md lv dr nb bg lr lb lh g t0 q x y (k + 1) (nI (t0 + 1)) hx6 hy8 (by omega) hI0) (cwV 4 hts gX5_ask_X5_inTheWay rfl rfl rfl (by decide +kernel) ⟨by decide, by decide⟩) hK hZ hA hP hD hS 0 5 rfl rfl rfl hl.1 rfl (Nat.le_of_ble_eq_true rfl) dX5_ask_86 ⟨Nat.zero_le _, Nat.zero_le _⟩ (fun v w' H locs hp hP hD hS => ?_)
      obtain ⟨rfl, rfl⟩ := hp
      have hP : va_P G vwCl (wm a cB cI cZ ag (nI g) ow ru hd kd tb md lv dr nb bg (nI t0) (nI q) lr lb lh) H := hP
      have hD : va_D A (wm a cB cI cZ ag (nI g) ow ru hd kd tb md lv dr nb bg (nI t0) (nI q) lr lb lh) := hD
      refine W.eq (g2 := F0 m 89 ls [.int (mx_way hd kd tb md dr bg x y (k + 1) (nI (t0 + 1)))]) rfl ?_
      refine lv_istore (lv' := [(6, .int (mx_way hd kd tb md dr bg x y (k + 1) (nI (t0 + 1)))), (5, .int (nI (72 * x + 9 * y + (k + 1)))), (0, .ref (a 0)), (1, .int (nI x)), (2, .int (nI z)), (3, .int (nI y)), (4, .int (nI (k + 1)))]) hx hb dX5_ask_89 hl (by decide) rfl (fun ls hl => ?_)
      refine lv_iload hx hb dX5_ask_91 (lv_at hl 0 rfl) ?_
      refine lv_if_ne (tgt := 108) hx hb dX5_ask_93 (by decide) (fun c_93 => ?_) (fun c_93 => ?_)
      · refine lv_aload_n hx hb dX5_ask_108 rfl (lv_at hl 2 rfl) ?_
        refine lv_iload hx hb dX5_ask_109 (lv_at hl 0 rfl) ?_
        refine lv_iload_n hx hb dX5_ask_111 rfl (lv_at hl 3 rfl) ?_
        refine kV (As := [.int (mx_way hd kd tb md dr bg x y (k + 1) (nI (t0 + 1))), .int (nI x)]) (rest := []) ⟨hx, hb, hml, hown, hts⟩ (c_X5_leads l G cB cI cZ tc a ag ow ru hd kd tb md lv dr nb bg lr lb lh g t0 q (mx_way hd kd tb md dr bg x y (k + 1) (nI (t0 + 1))) (nI x) hI0) (cwV 2 hts gX5_ask_X5_leads rfl rfl rfl (by decide +kernel) ⟨by decide, by decide⟩) hK hZ hA hP hD hS 0 5 rfl rfl rfl hl.1 rfl (Nat.le_of_ble_eq_true rfl) dX5_ask_112 ⟨Nat.zero_le _, Nat.zero_le _⟩ (fun v w' H locs hp hP hD hS => ?_)
        obtain ⟨rfl, rfl⟩ := hp
        have hP : va_P G vwCl (wm a cB cI cZ ag (nI g) ow ru hd kd tb md lv dr nb bg (nI t0) (nI q) lr lb lh) H := hP
        have hD : va_D A (wm a cB cI cZ ag (nI g) ow ru hd kd tb md lv dr nb bg (nI t0) (nI q) lr lb lh) := hD
        refine W.eq (g2 := F0 m 115 ls [.int (fw_b (mx_ld (mx_wo ow ru hd kd tb md dr nb bg) (mx_way hd kd tb md dr bg x y (k + 1) (nI (t0 + 1))) (nI x)))]) rfl ?_
        refine lv_if_eq (tgt := 120) hx hb dX5_ask_115 (by decide) (fun c_115 => ?_) (fun c_115 => ?_)
        · have c_115 := fw_b0.mp c_115
          refine lv_aload_n hx hb dX5_ask_120 rfl (lv_at hl 2 rfl) ?_
          refine va_get (D := G) (ci := 5) (v := .ref (a 6)) (C := RX5) (T := TX5) (N := 17) hx hb hts hin5 hown hK hP 0 rfl rfl 6 (by decide) fl_26 (fun _ h9 => h9) rfl dX5_ask_121 ?_
          refine lv_iload_n hx hb dX5_ask_124 rfl (lv_at hl 3 rfl) ?_
          refine lv_iload_n hx hb dX5_ask_125 rfl (lv_at hl 5 rfl) ?_
          refine fw_iast (j := x) (f := tb) (x := nI y) hx hb hK hP hD hS 6 1 rfl rfl (by omega) (by decide) dX5_ask_126 (fun H locs hP hD hS => ?_)
          have hP : va_P G vwCl (wm a cB cI cZ ag (nI g) ow ru hd kd (upd tb x (nI y)) md lv dr nb bg (nI t0) (nI q) lr lb lh) H := hP
          have hD : va_D A (wm a cB cI cZ ag (nI g) ow ru hd kd (upd tb x (nI y)) md lv dr nb bg (nI t0) (nI q) lr lb lh) := hD
          refine lv_aload_n hx hb dX5_ask_127 rfl (lv_at hl 2 rfl) ?_
          refine va_get (D := G) (ci := 5) (v := .ref (a 7)) (C := RX5) (T := TX5) (N := 17) hx hb hts hin5 hown hK hP 0 rfl rfl 7 (by decide) fl_29 (fun _ h9 => h9) rfl dX5_ask_128 ?_
          refine lv_iload_n hx hb dX5_ask_131 rfl (lv_at hl 3 rfl) ?_
          refine lv_iload hx hb dX5_ask_132 (lv_at hl 6 rfl) ?_
          refine fw_iast (j := x) (f := md) (x := nI (k + 1)) hx hb hK hP hD hS 7 1 rfl rfl (by omega) (by decide) dX5_ask_134 (fun H locs hP hD hS => ?_)
          have hP : va_P G vwCl (wm a cB cI cZ ag (nI g) ow ru hd kd (upd tb x (nI y)) (upd md x (nI (k + 1))) lv dr nb bg (nI t0) (nI q) lr lb lh) H := hP
          have hD : va_D A (wm a cB cI cZ ag (nI g) ow ru hd kd (upd tb x (nI y)) (upd md x (nI (k + 1))) lv dr nb bg (nI t0) (nI q) lr lb lh) := hD
          refine lv_aload_n hx hb dX5_ask_135 rfl (lv_at hl 2 rfl) ?_
          refine va_get (D := G) (ci := 5) (v := .ref (a 8)) (C := RX5) (T := TX5) (N := 17) hx hb hts hin5 hown hK hP 0 rfl rfl 8 (by decide) fl_32 (fun _ h9 => h9) rfl dX5_ask_136 ?_
          refine lv_iload_n hx hb dX5_ask_139 rfl (lv_at hl 3 rfl) ?_
          refine lv_iload_n hx hb dX5_ask_140 rfl (lv_at hl 4 rfl) ?_
          refine fw_iast (j := x) (f := lv) (x := nI z) hx hb hK hP hD hS 8 1 rfl rfl (by omega) (by decide) dX5_ask_141 (fun H locs hP hD hS => ?_)
          have hP : va_P G vwCl (wm a cB cI cZ ag (nI g) ow ru hd kd (upd tb x (nI y)) (upd md x (nI (k + 1))) (upd lv x (nI z)) dr nb bg (nI t0) (nI q) lr lb lh) H := hP
          have hD : va_D A (wm a cB cI cZ ag (nI g) ow ru hd kd (upd tb x (nI y)) (upd md x (nI (k + 1))) (upd lv x (nI z)) dr nb bg (nI t0) (nI q) lr lb lh) := hD
          refine lv_aload_n hx hb dX5_ask_142 rfl (lv_at hl 2 rfl) ?_
          refine va_get (D := G) (ci := 5) (v := .ref (a 9)) (C := RX5) (T := TX5) (N := 17) hx hb hts hin5 hown hK hP 0 rfl rfl 9 (by decide) fl_35 (fun _ h9 => h9) rfl dX5_ask_143 ?_
          refine lv_iload_n hx hb dX5_ask_146 rfl (lv_at hl 3 rfl) ?_
          refine lv_iconst (v := 0) hx hb dX5_ask_147 (by decide) ?_
          refine fw_zast (j := x) (f := dr) (x := 0) hx hb hK hP hD hS 9 2 rfl rfl (by omega) (by decide) (by decide) dX5_ask_148 (fun H locs hP hD hS => ?_)
          have hP : va_P G vwCl (wm a cB cI cZ ag (nI g) ow ru hd kd (upd tb x (nI y)) (upd md x (nI (k + 1))) (upd lv x (nI z)) (upd dr x 0) nb bg (nI t0) (nI q) lr lb lh) H := hP
          have hD : va_D A (wm a cB cI cZ ag (nI g) ow ru hd kd (upd tb x (nI y)) (upd md x (nI (k + 1))) (upd lv x (nI z)) (upd dr x 0) nb bg (nI t0) (nI q) lr lb lh) := hD
          refine lv_aload_n hx hb dX5_ask_149 rfl (lv_at hl 2 rfl) ?_
          refine lv_iload_n hx hb dX5_ask_150 rfl (lv_at hl 3 rfl) ?_
          refine lv_iconst (v := 1) hx hb dX5_ask_151 (by decide) ?_
          refine kV (As := [.int (nI x), .int 1]) (rest := []) ⟨hx, hb, hml, hown, hts⟩ (c_X5_begin l G cB cI cZ tc a ag ow ru hd kd (upd tb x (nI y)) (upd md x (nI (k + 1))) (upd lv x (nI z)) (upd dr x 0) nb bg lr lb lh g t0 q x 1 hx6) (cwV 2 hts gX5_ask_X5_begin rfl rfl rfl (by decide +kernel) ⟨by decide, by decide⟩) hK hZ hA hP hD hS 0 5 rfl rfl rfl hl.1 rfl (Nat.le_of_ble_eq_true rfl) dX5_ask_152 ⟨Nat.zero_le _, Nat.zero_le _⟩ (fun v w' H locs hp hP hD hS => ?_)
          obtain ⟨rfl, rfl⟩ := hp
          have hP : va_P G vwCl (wm a cB cI cZ ag (nI g) ow ru hd (upd kd x 1) (upd tb x (nI y)) (upd md x (nI (k + 1))) (upd lv x (nI z)) (upd dr x 0) nb (upd bg x (nI (t0 + 1))) (nI (t0 + 1)) (nI q) lr lb lh) H := hP
          have hD : va_D A (wm a cB cI cZ ag (nI g) ow ru hd (upd kd x 1) (upd tb x (nI y)) (upd md x (nI (k + 1))) (upd lv x (nI z)) (upd dr x 0) nb (upd bg x (nI (t0 + 1))) (nI (t0 + 1)) (nI q) lr lb lh) := hD
          refine W.eq (g2 := F0 m 155 ls []) rfl ?_
          refine lv_iconst (v := 1) hx hb dX5_ask_155 (by decide) ?_
          exact hri _ rfl 1 _ _ _ _ _ (rfl) (by rw [if_neg (Decidable.not_not.mpr c_44), if_neg (Decidable.not_not.mpr c_70), if_neg c_93, if_neg (show ¬ mx_ld (mx_wo ow ru hd kd tb md dr nb bg) (mx_way hd kd tb md dr bg x y (k + 1) (nI (t0 + 1))) (nI x) = true by rw [c_115]; decide)]; exact ⟨rfl, rfl⟩) hP hD hS dX5_ask_156
        · have c_115 := fw_b1.mp c_115
          refine lv_iconst (v := 2) hx hb dX5_ask_118 (by decide) ?_
          exact hri _ rfl 2 _ _ _ _ _ (rfl) (by rw [if_neg (Decidable.not_not.mpr c_44), if_neg (Decidable.not_not.mpr c_70), if_neg c_93, if_pos c_115]; exact ⟨rfl, rfl⟩) hP hD hS dX5_ask_119
      · refine lv_aload_n hx hb dX5_ask_96 rfl (lv_at hl 2 rfl) ?_
        refine va_get (D := G) (ci := 5) (v := .ref (a 4)) (C := RX5) (T := TX5) (N := 17) hx hb hts hin5 hown hK hP 0 rfl rfl 4 (by decide) fl_20 (fun _ h9 => h9) rfl dX5_ask_97 ?_
        refine lv_iload hx hb dX5_ask_100 (lv_at hl 1 rfl) ?_
        refine lv_iload_n hx hb dX5_ask_102 rfl (lv_at hl 4 rfl) ?_
        refine lv_iconst (v := 1) hx hb dX5_ask_103 (by decide) ?_
        refine lv_iadd hx hb dX5_ask_104 ?_
        rw [nI_1 z]
        refine fw_iast (j := (72 * x + 9 * y + (k + 1))) (f := hd) (x := nI (z + 1)) hx hb hK hP hD hS 4 1 rfl rfl (by omega) (by decide) dX5_ask_105 (fun H locs hP hD hS => ?_)
        have hP : va_P G vwCl (wm a cB cI cZ ag (nI g) ow ru (upd hd (72 * x + 9 * y + (k + 1)) (nI (z + 1))) kd tb md lv dr nb bg (nI t0) (nI q) lr lb lh) H := hP
        have hD : va_D A (wm a cB cI cZ ag (nI g) ow ru (upd hd (72 * x + 9 * y + (k + 1)) (nI (z + 1))) kd tb md lv dr nb bg (nI t0) (nI q) lr lb lh) := hD
        refine lv_iconst (v := 0) hx hb dX5_ask_106 (by decide) ?_
        exact hri _ rfl 0 _ _ _ _ _ (rfl) (by rw [if_neg (Decidable.not_not.mpr c_44), if_neg (Decidable.not_not.mpr c_70), if_pos c_93]; exact ⟨rfl, rfl⟩) hP hD hS dX5_ask_107
    · refine lv_iconst (v := 0) hx hb dX5_ask_73 (by decide) ?_
      exact hri _ rfl 0 _ _ _ _ _ (rfl) (by rw [if_neg (Decidable.not_not.mpr c_44), if_pos c_70]; exact ⟨rfl, rfl⟩) hP hD hS dX5_ask_74
  · refine lv_iconst (v := (-1)) hx hb dX5_ask_47 (by decide) ?_
    exact hri _ rfl (-1) _ _ _ _ _ (rfl) (by rw [if_pos c_44]; exact ⟨rfl, rfl⟩) hP hD hS dX5_ask_48

abbrev rmX5_await : Room := { frames := 5, cells := 0, slots := 0, locals := 121 }
set_option maxHeartbeats 4000000 in
set_option maxRecDepth 100000 in
theorem m_await_no (l : Launch) (G : va_G) (cB cI cZ : ClassId) (tc : Nat) (a : Nat → Nat) (ag ow ru hd kd tb md lv dr nb bg lr lb lh : Nat → Int32) (g : Nat) (t0 : Nat) (q : Nat) (x1 : Int32) (x2 : Int32) (h : (px_isS x1 && px_was g x2 && decide (kd x1.toNatClampNeg = 0)) = false) : KC l yX5_await wsX5_await rmX5_await G [(cB, .byte), (cI, .int), (cZ, .boolean)] tc [.ref (a 0), .int x1, .int x2] (wm a cB cI cZ ag (nI g) ow ru hd kd tb md lv dr nb bg (nI t0) (nI q) lr lb lh) (fun v w' => v = some (.int (-1)) ∧ w' = (wm a cB cI cZ ag (nI g) ow ru hd kd tb md lv dr nb bg (nI t0) (nI q) lr lb lh)) := by
  refine KC.of (cc := cX5_await) (maxL := 3) (ret := some .int) (by decide) rfl (Nat.le_of_ble_eq_true rfl) ?_
  intro p e s m below meth c args A Q ls hx hb hml hown hts hK hZ hA hP hD hS hl hri hrv
  have hown : s.vm.findClass RX5 = some m.cls := hown
  have hl : lv_has ls 3 [(0, .ref (a 0)), (1, .int x1), (2, .int x2)] := hl
  have fl_13 := hts (.fieldLink RX5 13 "LockDeskModel" "owner" "[I") (by decide +kernel)
  have fl_16 := hts (.fieldLink RX5 16 "LockDeskModel" "runs" "[Z") (by decide +kernel)
  have fl_23 := hts (.fieldLink RX5 23 "LockDeskModel" "kind" "[I") (by decide +kernel)
  have fl_38 := hts (.fieldLink RX5 38 "LockDeskModel" "number" "[I") (by decide +kernel)
  have fl_57 := hts (.fieldLink RX5 57 "LockDeskModel" "given" "I") (by decide +kernel)
  have hin5 : ∀ w ∈ wsX50, w ∈ wsX5_await := by decide +kernel
  refine lv_iload_n hx hb dX5_await_0 rfl (lv_at hl 1 rfl) ?_
  refine kS (As := [.int x1]) (rest := []) ⟨hx, hb, hml, hown, hts⟩ (c_X5_isSession l G [(cB, .byte), (cI, .int), (cZ, .boolean)] tc (wm a cB cI cZ ag (nI g) ow ru hd kd tb md lv dr nb bg (nI t0) (nI q) lr lb lh) x1) (va_cwS 1 hts gX5_await_X5_isSession rfl rfl rfl (by decide +kernel) ⟨by decide, by decide⟩) hK hZ hA hP hD hS rfl hl.1 rfl (Nat.le_of_ble_eq_true rfl) dX5_await_1 ⟨Nat.zero_le _, Nat.zero_le _⟩ (fun v w' H locs hp hP hD hS => ?_)
  obtain ⟨rfl, rfl⟩ := hp
  have hP : va_P G vwCl (wm a cB cI cZ ag (nI g) ow ru hd kd tb md lv dr nb bg (nI t0) (nI q) lr lb lh) H := hP
  have hD : va_D A (wm a cB cI cZ ag (nI g) ow ru hd kd tb md lv dr nb bg (nI t0) (nI q) lr lb lh) := hD
  refine W.eq (g2 := F0 m 4 ls [.int (fw_b (px_isS x1))]) rfl ?_
  refine lv_if_eq (tgt := 28) hx hb dX5_await_4 (by decide) (fun c_4 => ?_) (fun c_4 => ?_)
  · have c_4 := fw_b0.mp c_4
    refine lv_iconst (v := (-1)) hx hb dX5_await_28 (by decide) ?_
    exact hri _ rfl (-1) _ _ _ _ _ (rfl) (⟨rfl, rfl⟩) hP hD hS dX5_await_29
  · have c_4 := fw_b1.mp c_4
    refine lv_iload_n hx hb dX5_await_7 rfl (lv_at hl 2 rfl) ?_
    refine lv_iconst (v := 1) hx hb dX5_await_8 (by decide) ?_
    refine lv_aload_n hx hb dX5_await_9 rfl (lv_at hl 0 rfl) ?_
    refine va_get (D := G) (ci := 5) (v := .int (nI g)) (C := RX5) (T := TX5) (N := 17) hx hb hts hin5 hown hK hP 0 rfl rfl 1 (by decide) fl_57 (fun _ h9 => h9) rfl dX5_await_10 ?_
    refine kS (As := [.int x2, .int 1, .int (nI g)]) (rest := []) ⟨hx, hb, hml, hown, hts⟩ (c_X5_in l G [(cB, .byte), (cI, .int), (cZ, .boolean)] tc (wm a cB cI cZ ag (nI g) ow ru hd kd tb md lv dr nb bg (nI t0) (nI q) lr lb lh) x2 1 (nI g)) (va_cwS 3 hts gX5_await_X5_in rfl rfl rfl (by decide +kernel) ⟨by decide, by decide⟩) hK hZ hA hP hD hS rfl hl.1 rfl (Nat.le_of_ble_eq_true rfl) dX5_await_13 ⟨Nat.zero_le _, Nat.zero_le _⟩ (fun v w' H locs hp hP hD hS => ?_)
    obtain ⟨rfl, rfl⟩ := hp
    have hP : va_P G vwCl (wm a cB cI cZ ag (nI g) ow ru hd kd tb md lv dr nb bg (nI t0) (nI q) lr lb lh) H := hP
    have hD : va_D A (wm a cB cI cZ ag (nI g) ow ru hd kd tb md lv dr nb bg (nI t0) (nI q) lr lb lh) := hD
    refine W.eq (g2 := F0 m 16 ls [.int (fw_b (px_was g x2))]) rfl ?_
    refine lv_if_eq (tgt := 28) hx hb dX5_await_16 (by decide) (fun c_16 => ?_) (fun c_16 => ?_)
    · have c_16 := fw_b0.mp c_16
      refine lv_iconst (v := (-1)) hx hb dX5_await_28 (by decide) ?_
      exact hri _ rfl (-1) _ _ _ _ _ (rfl) (⟨rfl, rfl⟩) hP hD hS dX5_await_29
    · have c_16 := fw_b1.mp c_16
      obtain ⟨x, hx6, rfl⟩ := px_isS_of c_4
      have cl1 : (nI x).toNatClampNeg = x := nI_clamp (by omega)
      refine lv_aload_n hx hb dX5_await_19 rfl (lv_at hl 0 rfl) ?_
      refine va_get (D := G) (ci := 5) (v := .ref (a 5)) (C := RX5) (T := TX5) (N := 17) hx hb hts hin5 hown hK hP 0 rfl rfl 5 (by decide) fl_23 (fun _ h9 => h9) rfl dX5_await_20 ?_
      refine lv_iload_n hx hb dX5_await_23 rfl (lv_at hl 1 rfl) ?_
      refine fw_iald (j := x) (f := kd) hx hb hK hP 5 1 rfl rfl (by omega) (by decide) dX5_await_24 ?_
      refine lv_if_eq (tgt := 30) hx hb dX5_await_25 (by decide) (fun c_25 => False.elim (by simp [c_4, c_16, cl1, c_25] at h)) (fun c_25 => ?_)
      refine lv_iconst (v := (-1)) hx hb dX5_await_28 (by decide) ?_
      exact hri _ rfl (-1) _ _ _ _ _ (rfl) (⟨rfl, rfl⟩) hP hD hS dX5_await_29

set_option maxHeartbeats 4000000 in
set_option maxRecDepth 100000 in
theorem m_await_ok (l : Launch) (G : va_G) (cB cI cZ : ClassId) (tc : Nat) (a : Nat → Nat) (ag ow ru hd kd tb md lv dr nb bg lr lb lh : Nat → Int32) (g : Nat) (t0 : Nat) (q : Nat) (x : Nat) (k : Nat) (hx6 : x < 6) (hk1 : 1 ≤ k) (hk2 : k ≤ g) (hno : kd x = 0) (hI : mx_I g t0 ag ow tb md lv dr nb bg) : KC l yX5_await wsX5_await rmX5_await G [(cB, .byte), (cI, .int), (cZ, .boolean)] tc [.ref (a 0), .int (nI x), .int (nI k)] (wm a cB cI cZ ag (nI g) ow ru hd kd tb md lv dr nb bg (nI t0) (nI q) lr lb lh) (fun v w' => if ru k = 0 then v = some (.int 0) ∧ w' = (wm a cB cI cZ ag (nI g) ow ru hd kd tb md lv dr nb bg (nI t0) (nI q) lr lb lh) else if mx_ld (mx_wo ow ru hd kd tb md dr nb bg) (1 <<< (ow k &&& 31)) (nI x) = true then v = some (.int 2) ∧ w' = (wm a cB cI cZ ag (nI g) ow ru hd kd tb md lv dr nb bg (nI t0) (nI q) lr lb lh) else v = some (.int 1) ∧ w' = (wm a cB cI cZ ag (nI g) ow ru hd (upd kd x 2) tb md lv dr (upd nb x (nI k)) (upd bg x (nI (t0 + 1))) (nI (t0 + 1)) (nI q) lr lb lh)) := by
  refine KC.of (cc := cX5_await) (maxL := 3) (ret := some .int) (by decide) rfl (Nat.le_of_ble_eq_true rfl) ?_
  intro p e s m below meth c args A Q ls hx hb hml hown hts hK hZ hA hP hD hS hl hri hrv
  have hown : s.vm.findClass RX5 = some m.cls := hown
  have hl : lv_has ls 3 [(0, .ref (a 0)), (1, .int (nI x)), (2, .int (nI k))] := hl
  have fl_13 := hts (.fieldLink RX5 13 "LockDeskModel" "owner" "[I") (by decide +kernel)
  have fl_16 := hts (.fieldLink RX5 16 "LockDeskModel" "runs" "[Z") (by decide +kernel)
  have fl_23 := hts (.fieldLink RX5 23 "LockDeskModel" "kind" "[I") (by decide +kernel)
  have fl_38 := hts (.fieldLink RX5 38 "LockDeskModel" "number" "[I") (by decide +kernel)
  have fl_57 := hts (.fieldLink RX5 57 "LockDeskModel" "given" "I") (by decide +kernel)
  have hin5 : ∀ w ∈ wsX50, w ∈ wsX5_await := by decide +kernel
  have hI0 := hI
  obtain ⟨hg, ht0, hag, how, htb, hmd, hdr, hlv, hnb, hbg⟩ := hI
  refine lv_iload_n hx hb dX5_await_0 rfl (lv_at hl 1 rfl) ?_
  refine kS (As := [.int (nI x)]) (rest := []) ⟨hx, hb, hml, hown, hts⟩ (c_X5_isSession l G [(cB, .byte), (cI, .int), (cZ, .boolean)] tc (wm a cB cI cZ ag (nI g) ow ru hd kd tb md lv dr nb bg (nI t0) (nI q) lr lb lh) (nI x)) (va_cwS 1 hts gX5_await_X5_isSession rfl rfl rfl (by decide +kernel) ⟨by decide, by decide⟩) hK hZ hA hP hD hS rfl hl.1 rfl (Nat.le_of_ble_eq_true rfl) dX5_await_1 ⟨Nat.zero_le _, Nat.zero_le _⟩ (fun v w' H locs hp hP hD hS => ?_)
  obtain ⟨rfl, rfl⟩ := hp
  have hP : va_P G vwCl (wm a cB cI cZ ag (nI g) ow ru hd kd tb md lv dr nb bg (nI t0) (nI q) lr lb lh) H := hP
  have hD : va_D A (wm a cB cI cZ ag (nI g) ow ru hd kd tb md lv dr nb bg (nI t0) (nI q) lr lb lh) := hD
  refine W.eq (g2 := F0 m 4 ls [.int (fw_b (px_isS (nI x)))]) rfl ?_
  refine lv_if_eq (tgt := 28) hx hb dX5_await_4 (by decide) (fun c_4 => False.elim (by rw [px_isS_nI x hx6] at c_4; exact absurd c_4 (by decide))) (fun c_4 => ?_)
  have c_4 := fw_b1.mp c_4
  refine lv_iload_n hx hb dX5_await_7 rfl (lv_at hl 2 rfl) ?_
  refine lv_iconst (v := 1) hx hb dX5_await_8 (by decide) ?_
  refine lv_aload_n hx hb dX5_await_9 rfl (lv_at hl 0 rfl) ?_
  refine va_get (D := G) (ci := 5) (v := .int (nI g)) (C := RX5) (T := TX5) (N := 17) hx hb hts hin5 hown hK hP 0 rfl rfl 1 (by decide) fl_57 (fun _ h9 => h9) rfl dX5_await_10 ?_
  refine kS (As := [.int (nI k), .int 1, .int (nI g)]) (rest := []) ⟨hx, hb, hml, hown, hts⟩ (c_X5_in l G [(cB, .byte), (cI, .int), (cZ, .boolean)] tc (wm a cB cI cZ ag (nI g) ow ru hd kd tb md lv dr nb bg (nI t0) (nI q) lr lb lh) (nI k) 1 (nI g)) (va_cwS 3 hts gX5_await_X5_in rfl rfl rfl (by decide +kernel) ⟨by decide, by decide⟩) hK hZ hA hP hD hS rfl hl.1 rfl (Nat.le_of_ble_eq_true rfl) dX5_await_13 ⟨Nat.zero_le _, Nat.zero_le _⟩ (fun v w' H locs hp hP hD hS => ?_)
  obtain ⟨rfl, rfl⟩ := hp
  have hP : va_P G vwCl (wm a cB cI cZ ag (nI g) ow ru hd kd tb md lv dr nb bg (nI t0) (nI q) lr lb lh) H := hP
  have hD : va_D A (wm a cB cI cZ ag (nI g) ow ru hd kd tb md lv dr nb bg (nI t0) (nI q) lr lb lh) := hD
  refine W.eq (g2 := F0 m 16 ls [.int (fw_b (px_was g (nI k)))]) rfl ?_
  refine lv_if_eq (tgt := 28) hx hb dX5_await_16 (by decide) (fun c_16 => False.elim (by rw [px_was_nI (show g < 2 ^ 31 by omega) hk1 hk2] at c_16; exact absurd c_16 (by decide))) (fun c_16 => ?_)
  have c_16 := fw_b1.mp c_16
  refine lv_aload_n hx hb dX5_await_19 rfl (lv_at hl 0 rfl) ?_
  refine va_get (D := G) (ci := 5) (v := .ref (a 5)) (C := RX5) (T := TX5) (N := 17) hx hb hts hin5 hown hK hP 0 rfl rfl 5 (by decide) fl_23 (fun _ h9 => h9) rfl dX5_await_20 ?_
  refine lv_iload_n hx hb dX5_await_23 rfl (lv_at hl 1 rfl) ?_
  refine fw_iald (j := x) (f := kd) hx hb hK hP 5 1 rfl rfl (by omega) (by decide) dX5_await_24 ?_
  refine lv_if_eq (tgt := 30) hx hb dX5_await_25 (by decide) (fun c_25 => ?_) (fun c_25 => False.elim (c_25 hno))
  refine lv_aload_n hx hb dX5_await_30 rfl (lv_at hl 0 rfl) ?_
  refine va_get (D := G) (ci := 5) (v := .ref (a 3)) (C := RX5) (T := TX5) (N := 17) hx hb hts hin5 hown hK hP 0 rfl rfl 3 (by decide) fl_16 (fun _ h9 => h9) rfl dX5_await_31 ?_
  refine lv_iload_n hx hb dX5_await_34 rfl (lv_at hl 2 rfl) ?_
  refine fw_zald (j := k) (f := ru) hx hb hK hP 3 2 rfl rfl (by omega) (by decide) dX5_await_35 ?_
  refine lv_if_ne (tgt := 41) hx hb dX5_await_36 (by decide) (fun c_36 => ?_) (fun c_36 => ?_)
  · refine lv_aload_n hx hb dX5_await_41 rfl (lv_at hl 0 rfl) ?_
    refine lv_iconst (v := 1) hx hb dX5_await_42 (by decide) ?_
    refine lv_aload_n hx hb dX5_await_43 rfl (lv_at hl 0 rfl) ?_
    refine va_get (D := G) (ci := 5) (v := .ref (a 2)) (C := RX5) (T := TX5) (N := 17) hx hb hts hin5 hown hK hP 0 rfl rfl 2 (by decide) fl_13 (fun _ h9 => h9) rfl dX5_await_44 ?_
    refine lv_iload_n hx hb dX5_await_47 rfl (lv_at hl 2 rfl) ?_
    refine fw_iald (j := k) (f := ow) hx hb hK hP 2 1 rfl rfl (by omega) (by decide) dX5_await_48 ?_
    refine lv_ishl hx hb dX5_await_49 ?_
    refine lv_iload_n hx hb dX5_await_50 rfl (lv_at hl 1 rfl) ?_
    refine kV (As := [.int (1 <<< ((ow k) &&& 31)), .int (nI x)]) (rest := []) ⟨hx, hb, hml, hown, hts⟩ (c_X5_leads l G cB cI cZ tc a ag ow ru hd kd tb md lv dr nb bg lr lb lh g t0 q (1 <<< (ow k &&& 31)) (nI x) hI0) (cwV 2 hts gX5_await_X5_leads rfl rfl rfl (by decide +kernel) ⟨by decide, by decide⟩) hK hZ hA hP hD hS 0 5 rfl rfl rfl hl.1 rfl (Nat.le_of_ble_eq_true rfl) dX5_await_51 ⟨Nat.zero_le _, Nat.zero_le _⟩ (fun v w' H locs hp hP hD hS => ?_)
    obtain ⟨rfl, rfl⟩ := hp
    have hP : va_P G vwCl (wm a cB cI cZ ag (nI g) ow ru hd kd tb md lv dr nb bg (nI t0) (nI q) lr lb lh) H := hP
    have hD : va_D A (wm a cB cI cZ ag (nI g) ow ru hd kd tb md lv dr nb bg (nI t0) (nI q) lr lb lh) := hD
    refine W.eq (g2 := F0 m 54 ls [.int (fw_b (mx_ld (mx_wo ow ru hd kd tb md dr nb bg) (1 <<< (ow k &&& 31)) (nI x)))]) rfl ?_
    refine lv_if_eq (tgt := 59) hx hb dX5_await_54 (by decide) (fun c_54 => ?_) (fun c_54 => ?_)
    · have c_54 := fw_b0.mp c_54
      refine lv_aload_n hx hb dX5_await_59 rfl (lv_at hl 0 rfl) ?_
      refine va_get (D := G) (ci := 5) (v := .ref (a 10)) (C := RX5) (T := TX5) (N := 17) hx hb hts hin5 hown hK hP 0 rfl rfl 10 (by decide) fl_38 (fun _ h9 => h9) rfl dX5_await_60 ?_
      refine lv_iload_n hx hb dX5_await_63 rfl (lv_at hl 1 rfl) ?_
      refine lv_iload_n hx hb dX5_await_64 rfl (lv_at hl 2 rfl) ?_
      refine fw_iast (j := x) (f := nb) (x := nI k) hx hb hK hP hD hS 10 1 rfl rfl (by omega) (by decide) dX5_await_65 (fun H locs hP hD hS => ?_)
      have hP : va_P G vwCl (wm a cB cI cZ ag (nI g) ow ru hd kd tb md lv dr (upd nb x (nI k)) bg (nI t0) (nI q) lr lb lh) H := hP
      have hD : va_D A (wm a cB cI cZ ag (nI g) ow ru hd kd tb md lv dr (upd nb x (nI k)) bg (nI t0) (nI q) lr lb lh) := hD
      refine lv_aload_n hx hb dX5_await_66 rfl (lv_at hl 0 rfl) ?_
      refine lv_iload_n hx hb dX5_await_67 rfl (lv_at hl 1 rfl) ?_
      refine lv_iconst (v := 2) hx hb dX5_await_68 (by decide) ?_
      refine kV (As := [.int (nI x), .int 2]) (rest := []) ⟨hx, hb, hml, hown, hts⟩ (c_X5_begin l G cB cI cZ tc a ag ow ru hd kd tb md lv dr (upd nb x (nI k)) bg lr lb lh g t0 q x 2 hx6) (cwV 2 hts gX5_await_X5_begin rfl rfl rfl (by decide +kernel) ⟨by decide, by decide⟩) hK hZ hA hP hD hS 0 5 rfl rfl rfl hl.1 rfl (Nat.le_of_ble_eq_true rfl) dX5_await_69 ⟨Nat.zero_le _, Nat.zero_le _⟩ (fun v w' H locs hp hP hD hS => ?_)
      obtain ⟨rfl, rfl⟩ := hp
      have hP : va_P G vwCl (wm a cB cI cZ ag (nI g) ow ru hd (upd kd x 2) tb md lv dr (upd nb x (nI k)) (upd bg x (nI (t0 + 1))) (nI (t0 + 1)) (nI q) lr lb lh) H := hP
      have hD : va_D A (wm a cB cI cZ ag (nI g) ow ru hd (upd kd x 2) tb md lv dr (upd nb x (nI k)) (upd bg x (nI (t0 + 1))) (nI (t0 + 1)) (nI q) lr lb lh) := hD
      refine W.eq (g2 := F0 m 72 ls []) rfl ?_
      refine lv_iconst (v := 1) hx hb dX5_await_72 (by decide) ?_
      exact hri _ rfl 1 _ _ _ _ _ (rfl) (by rw [if_neg c_36, if_neg (show ¬ mx_ld (mx_wo ow ru hd kd tb md dr nb bg) (1 <<< (ow k &&& 31)) (nI x) = true by rw [c_54]; decide)]; exact ⟨rfl, rfl⟩) hP hD hS dX5_await_73
    · have c_54 := fw_b1.mp c_54
      refine lv_iconst (v := 2) hx hb dX5_await_57 (by decide) ?_
      exact hri _ rfl 2 _ _ _ _ _ (rfl) (by rw [if_neg c_36, if_pos c_54]; exact ⟨rfl, rfl⟩) hP hD hS dX5_await_58
  · refine lv_iconst (v := 0) hx hb dX5_await_39 (by decide) ?_
    exact hri _ rfl 0 _ _ _ _ _ (rfl) (by rw [if_pos c_36]; exact ⟨rfl, rfl⟩) hP hD hS dX5_await_40

abbrev rmX5_cancel : Room := { frames := 2, cells := 0, slots := 0, locals := 42 }
set_option maxHeartbeats 4000000 in
set_option maxRecDepth 100000 in
theorem m_cancel_no (l : Launch) (G : va_G) (cB cI cZ : ClassId) (tc : Nat) (a : Nat → Nat) (ag ow ru hd kd tb md lv dr nb bg lr lb lh : Nat → Int32) (g : Nat) (t0 : Nat) (q : Nat) (x1 : Int32) (h : px_isS x1 = false) : KC l yX5_cancel wsX5_cancel rmX5_cancel G [(cB, .byte), (cI, .int), (cZ, .boolean)] tc [.ref (a 0), .int x1] (wm a cB cI cZ ag (nI g) ow ru hd kd tb md lv dr nb bg (nI t0) (nI q) lr lb lh) (fun v w' => v = some (.int (0)) ∧ w' = (wm a cB cI cZ ag (nI g) ow ru hd kd tb md lv dr nb bg (nI t0) (nI q) lr lb lh)) := by
  refine KC.of (cc := cX5_cancel) (maxL := 3) (ret := some .boolean) (by decide) rfl (Nat.le_of_ble_eq_true rfl) ?_
  intro p e s m below meth c args A Q ls hx hb hml hown hts hK hZ hA hP hD hS hl hri hrv
  have hown : s.vm.findClass RX5 = some m.cls := hown
  have hl : lv_has ls 3 [(0, .ref (a 0)), (1, .int x1)] := hl
  have fl_23 := hts (.fieldLink RX5 23 "LockDeskModel" "kind" "[I") (by decide +kernel)
  have hin5 : ∀ w ∈ wsX50, w ∈ wsX5_cancel := by decide +kernel
  refine lv_iload_n hx hb dX5_cancel_0 rfl (lv_at hl 1 rfl) ?_
  refine kS (As := [.int x1]) (rest := []) ⟨hx, hb, hml, hown, hts⟩ (c_X5_isSession l G [(cB, .byte), (cI, .int), (cZ, .boolean)] tc (wm a cB cI cZ ag (nI g) ow ru hd kd tb md lv dr nb bg (nI t0) (nI q) lr lb lh) x1) (va_cwS 1 hts gX5_cancel_X5_isSession rfl rfl rfl (by decide +kernel) ⟨by decide, by decide⟩) hK hZ hA hP hD hS rfl hl.1 rfl (Nat.le_of_ble_eq_true rfl) dX5_cancel_1 ⟨Nat.zero_le _, Nat.zero_le _⟩ (fun v w' H locs hp hP hD hS => ?_)
  obtain ⟨rfl, rfl⟩ := hp
  have hP : va_P G vwCl (wm a cB cI cZ ag (nI g) ow ru hd kd tb md lv dr nb bg (nI t0) (nI q) lr lb lh) H := hP
  have hD : va_D A (wm a cB cI cZ ag (nI g) ow ru hd kd tb md lv dr nb bg (nI t0) (nI q) lr lb lh) := hD
  refine W.eq (g2 := F0 m 4 ls [.int (fw_b (px_isS x1))]) rfl ?_
  refine lv_if_eq (tgt := 20) hx hb dX5_cancel_4 (by decide) (fun c_4 => ?_) (fun c_4 => False.elim (by rw [h] at c_4; exact c_4 rfl))
  have c_4 := fw_b0.mp c_4
  refine lv_iconst (v := 0) hx hb dX5_cancel_20 (by decide) ?_
  refine lv_istore_n (lv' := [(2, .int 0), (0, .ref (a 0)), (1, .int x1)]) hx hb dX5_cancel_21 rfl hl (by decide) rfl (fun ls hl => ?_)
  refine lv_iload_n hx hb dX5_cancel_22 rfl (lv_at hl 0 rfl) ?_
  refine lv_if_eq (tgt := 33) hx hb dX5_cancel_23 (by decide) (fun _ => ?_) (fun z9 => absurd z9 (by decide))
  refine lv_iload_n hx hb dX5_cancel_33 rfl (lv_at hl 0 rfl) ?_
  exact hri _ rfl 0 _ _ _ _ _ (by decide) (⟨rfl, rfl⟩) hP hD hS dX5_cancel_34

set_option maxHeartbeats 4000000 in
set_option maxRecDepth 100000 in
theorem m_cancel_ok (l : Launch) (G : va_G) (cB cI cZ : ClassId) (tc : Nat) (a : Nat → Nat) (ag ow ru hd kd tb md lv dr nb bg lr lb lh : Nat → Int32) (g : Nat) (t0 : Nat) (q : Nat) (x : Nat) (hx6 : x < 6)  : KC l yX5_cancel wsX5_cancel rmX5_cancel G [(cB, .byte), (cI, .int), (cZ, .boolean)] tc [.ref (a 0), .int (nI x)] (wm a cB cI cZ ag (nI g) ow ru hd kd tb md lv dr nb bg (nI t0) (nI q) lr lb lh) (fun v w' => if kd x = 0 then v = some (.int 0) ∧ w' = (wm a cB cI cZ ag (nI g) ow ru hd kd tb md lv dr nb bg (nI t0) (nI q) lr lb lh) else v = some (.int 1) ∧ w' = (wm a cB cI cZ ag (nI g) ow ru hd (upd kd x 0) tb md lv dr nb bg (nI t0) (nI q) lr lb lh)) := by
  refine KC.of (cc := cX5_cancel) (maxL := 3) (ret := some .boolean) (by decide) rfl (Nat.le_of_ble_eq_true rfl) ?_
  intro p e s m below meth c args A Q ls hx hb hml hown hts hK hZ hA hP hD hS hl hri hrv
  have hown : s.vm.findClass RX5 = some m.cls := hown
  have hl : lv_has ls 3 [(0, .ref (a 0)), (1, .int (nI x))] := hl
  have fl_23 := hts (.fieldLink RX5 23 "LockDeskModel" "kind" "[I") (by decide +kernel)
  have hin5 : ∀ w ∈ wsX50, w ∈ wsX5_cancel := by decide +kernel
  refine lv_iload_n hx hb dX5_cancel_0 rfl (lv_at hl 1 rfl) ?_
  refine kS (As := [.int (nI x)]) (rest := []) ⟨hx, hb, hml, hown, hts⟩ (c_X5_isSession l G [(cB, .byte), (cI, .int), (cZ, .boolean)] tc (wm a cB cI cZ ag (nI g) ow ru hd kd tb md lv dr nb bg (nI t0) (nI q) lr lb lh) (nI x)) (va_cwS 1 hts gX5_cancel_X5_isSession rfl rfl rfl (by decide +kernel) ⟨by decide, by decide⟩) hK hZ hA hP hD hS rfl hl.1 rfl (Nat.le_of_ble_eq_true rfl) dX5_cancel_1 ⟨Nat.zero_le _, Nat.zero_le _⟩ (fun v w' H locs hp hP hD hS => ?_)
  obtain ⟨rfl, rfl⟩ := hp
  have hP : va_P G vwCl (wm a cB cI cZ ag (nI g) ow ru hd kd tb md lv dr nb bg (nI t0) (nI q) lr lb lh) H := hP
  have hD : va_D A (wm a cB cI cZ ag (nI g) ow ru hd kd tb md lv dr nb bg (nI t0) (nI q) lr lb lh) := hD
  refine W.eq (g2 := F0 m 4 ls [.int (fw_b (px_isS (nI x)))]) rfl ?_
  refine lv_if_eq (tgt := 20) hx hb dX5_cancel_4 (by decide) (fun c_4 => False.elim (by rw [px_isS_nI x hx6] at c_4; exact absurd c_4 (by decide))) (fun c_4 => ?_)
  have c_4 := fw_b1.mp c_4
  refine lv_aload_n hx hb dX5_cancel_7 rfl (lv_at hl 0 rfl) ?_
  refine va_get (D := G) (ci := 5) (v := .ref (a 5)) (C := RX5) (T := TX5) (N := 17) hx hb hts hin5 hown hK hP 0 rfl rfl 5 (by decide) fl_23 (fun _ h9 => h9) rfl dX5_cancel_8 ?_
  refine lv_iload_n hx hb dX5_cancel_11 rfl (lv_at hl 1 rfl) ?_
  refine fw_iald (j := x) (f := kd) hx hb hK hP 5 1 rfl rfl (by omega) (by decide) dX5_cancel_12 ?_
  refine lv_if_eq (tgt := 20) hx hb dX5_cancel_13 (by decide) (fun c_13 => ?_) (fun c_13 => ?_)
  · refine lv_iconst (v := 0) hx hb dX5_cancel_20 (by decide) ?_
    refine lv_istore_n (lv' := [(2, .int 0), (0, .ref (a 0)), (1, .int (nI x))]) hx hb dX5_cancel_21 rfl hl (by decide) rfl (fun ls hl => ?_)
    refine lv_iload_n hx hb dX5_cancel_22 rfl (lv_at hl 0 rfl) ?_
    refine lv_if_eq (tgt := 33) hx hb dX5_cancel_23 (by decide) (fun _ => ?_) (fun z9 => absurd z9 (by decide))
    refine lv_iload_n hx hb dX5_cancel_33 rfl (lv_at hl 0 rfl) ?_
    exact hri _ rfl 0 _ _ _ _ _ (by decide) (by rw [if_pos c_13]; exact ⟨rfl, rfl⟩) hP hD hS dX5_cancel_34
  · refine lv_iconst (v := 1) hx hb dX5_cancel_16 (by decide) ?_
    refine lv_goto (tgt := 21) hx hb dX5_cancel_17 (by decide) ?_
    refine lv_istore_n (lv' := [(2, .int 1), (0, .ref (a 0)), (1, .int (nI x))]) hx hb dX5_cancel_21 rfl hl (by decide) rfl (fun ls hl => ?_)
    refine lv_iload_n hx hb dX5_cancel_22 rfl (lv_at hl 0 rfl) ?_
    refine lv_if_eq (tgt := 33) hx hb dX5_cancel_23 (by decide) (fun z9 => absurd z9 (by decide)) (fun _ => ?_)
    refine lv_aload_n hx hb dX5_cancel_26 rfl (lv_at hl 1 rfl) ?_
    refine va_get (D := G) (ci := 5) (v := .ref (a 5)) (C := RX5) (T := TX5) (N := 17) hx hb hts hin5 hown hK hP 0 rfl rfl 5 (by decide) fl_23 (fun _ h9 => h9) rfl dX5_cancel_27 ?_
    refine lv_iload_n hx hb dX5_cancel_30 rfl (lv_at hl 2 rfl) ?_
    refine lv_iconst (v := 0) hx hb dX5_cancel_31 (by decide) ?_
    refine fw_iast (j := x) (f := kd) (x := 0) hx hb hK hP hD hS 5 1 rfl rfl (by omega) (by decide) dX5_cancel_32 (fun H locs hP hD hS => ?_)
    have hP : va_P G vwCl (wm a cB cI cZ ag (nI g) ow ru hd (upd kd x 0) tb md lv dr nb bg (nI t0) (nI q) lr lb lh) H := hP
    have hD : va_D A (wm a cB cI cZ ag (nI g) ow ru hd (upd kd x 0) tb md lv dr nb bg (nI t0) (nI q) lr lb lh) := hD
    refine lv_iload_n hx hb dX5_cancel_33 rfl (lv_at hl 0 rfl) ?_
    exact hri _ rfl 1 _ _ _ _ _ (by decide) (by rw [if_neg c_13]; exact ⟨rfl, rfl⟩) hP hD hS dX5_cancel_34

abbrev rmX5_end : Room := { frames := 2, cells := 0, slots := 0, locals := 42 }
set_option maxHeartbeats 4000000 in
set_option maxRecDepth 100000 in
theorem m_end_no (l : Launch) (G : va_G) (cB cI cZ : ClassId) (tc : Nat) (a : Nat → Nat) (ag ow ru hd kd tb md lv dr nb bg lr lb lh : Nat → Int32) (g : Nat) (t0 : Nat) (q : Nat) (x1 : Int32) (x2 : Int32) (h : (px_isS x1 && px_isT x2) = false) : KC l yX5_end wsX5_end rmX5_end G [(cB, .byte), (cI, .int), (cZ, .boolean)] tc [.ref (a 0), .int x1, .int x2] (wm a cB cI cZ ag (nI g) ow ru hd kd tb md lv dr nb bg (nI t0) (nI q) lr lb lh) (fun v w' => v = some (.int (0)) ∧ w' = (wm a cB cI cZ ag (nI g) ow ru hd kd tb md lv dr nb bg (nI t0) (nI q) lr lb lh)) := by
  refine KC.of (cc := cX5_end) (maxL := 4) (ret := some .boolean) (by decide) rfl (Nat.le_of_ble_eq_true rfl) ?_
  intro p e s m below meth c args A Q ls hx hb hml hown hts hK hZ hA hP hD hS hl hri hrv
  have hown : s.vm.findClass RX5 = some m.cls := hown
  have hl : lv_has ls 4 [(0, .ref (a 0)), (1, .int x1), (2, .int x2)] := hl
  have fl_20 := hts (.fieldLink RX5 20 "LockDeskModel" "held" "[I") (by decide +kernel)
  have hin5 : ∀ w ∈ wsX50, w ∈ wsX5_end := by decide +kernel
  refine lv_iload_n hx hb dX5_end_0 rfl (lv_at hl 1 rfl) ?_
  refine kS (As := [.int x1]) (rest := []) ⟨hx, hb, hml, hown, hts⟩ (c_X5_isSession l G [(cB, .byte), (cI, .int), (cZ, .boolean)] tc (wm a cB cI cZ ag (nI g) ow ru hd kd tb md lv dr nb bg (nI t0) (nI q) lr lb lh) x1) (va_cwS 1 hts gX5_end_X5_isSession rfl rfl rfl (by decide +kernel) ⟨by decide, by decide⟩) hK hZ hA hP hD hS rfl hl.1 rfl (Nat.le_of_ble_eq_true rfl) dX5_end_1 ⟨Nat.zero_le _, Nat.zero_le _⟩ (fun v w' H locs hp hP hD hS => ?_)
  obtain ⟨rfl, rfl⟩ := hp
  have hP : va_P G vwCl (wm a cB cI cZ ag (nI g) ow ru hd kd tb md lv dr nb bg (nI t0) (nI q) lr lb lh) H := hP
  have hD : va_D A (wm a cB cI cZ ag (nI g) ow ru hd kd tb md lv dr nb bg (nI t0) (nI q) lr lb lh) := hD
  refine W.eq (g2 := F0 m 4 ls [.int (fw_b (px_isS x1))]) rfl ?_
  refine lv_if_eq (tgt := 17) hx hb dX5_end_4 (by decide) (fun c_4 => ?_) (fun c_4 => ?_)
  · have c_4 := fw_b0.mp c_4
    refine lv_iconst (v := 0) hx hb dX5_end_17 (by decide) ?_
    exact hri _ rfl 0 _ _ _ _ _ (by decide) (⟨rfl, rfl⟩) hP hD hS dX5_end_18
  · have c_4 := fw_b1.mp c_4
    refine lv_iload_n hx hb dX5_end_7 rfl (lv_at hl 2 rfl) ?_
    refine lv_iconst (v := 0) hx hb dX5_end_8 (by decide) ?_
    refine lv_bipush (v := 7) hx hb dX5_end_9 (by decide) ?_
    refine kS (As := [.int x2, .int 0, .int 7]) (rest := []) ⟨hx, hb, hml, hown, hts⟩ (c_X5_in l G [(cB, .byte), (cI, .int), (cZ, .boolean)] tc (wm a cB cI cZ ag (nI g) ow ru hd kd tb md lv dr nb bg (nI t0) (nI q) lr lb lh) x2 0 7) (va_cwS 3 hts gX5_end_X5_in rfl rfl rfl (by decide +kernel) ⟨by decide, by decide⟩) hK hZ hA hP hD hS rfl hl.1 rfl (Nat.le_of_ble_eq_true rfl) dX5_end_11 ⟨Nat.zero_le _, Nat.zero_le _⟩ (fun v w' H locs hp hP hD hS => ?_)
    obtain ⟨rfl, rfl⟩ := hp
    rw [mx_inT]
    have hP : va_P G vwCl (wm a cB cI cZ ag (nI g) ow ru hd kd tb md lv dr nb bg (nI t0) (nI q) lr lb lh) H := hP
    have hD : va_D A (wm a cB cI cZ ag (nI g) ow ru hd kd tb md lv dr nb bg (nI t0) (nI q) lr lb lh) := hD
    refine W.eq (g2 := F0 m 14 ls [.int (fw_b (px_isT x2))]) rfl ?_
    refine lv_if_ne (tgt := 19) hx hb dX5_end_14 (by decide) (fun c_14 => False.elim (by have c_14 := fw_b1.mp c_14; simp [c_4, c_14] at h)) (fun c_14 => ?_)
    have c_14 := fw_b0.mp c_14
    refine lv_iconst (v := 0) hx hb dX5_end_17 (by decide) ?_
    exact hri _ rfl 0 _ _ _ _ _ (by decide) (⟨rfl, rfl⟩) hP hD hS dX5_end_18

set_option maxHeartbeats 4000000 in
set_option maxRecDepth 100000 in
theorem m_end_ok (l : Launch) (G : va_G) (cB cI cZ : ClassId) (tc : Nat) (a : Nat → Nat) (ag ow ru hd kd tb md lv dr nb bg lr lb lh : Nat → Int32) (g : Nat) (t0 : Nat) (q : Nat) (x : Nat) (x2 : Int32) (hx6 : x < 6) (h2 : px_isT x2 = true) : KC l yX5_end wsX5_end rmX5_end G [(cB, .byte), (cI, .int), (cZ, .boolean)] tc [.ref (a 0), .int (nI x), .int x2] (wm a cB cI cZ ag (nI g) ow ru hd kd tb md lv dr nb bg (nI t0) (nI q) lr lb lh) (fun v w' => v = some (.int (1)) ∧ w' = (wm a cB cI cZ ag (nI g) ow ru (mx_end x x2 0 hd) kd tb md lv dr nb bg (nI t0) (nI q) lr lb lh)) := by
  refine KC.of (cc := cX5_end) (maxL := 4) (ret := some .boolean) (by decide) rfl (Nat.le_of_ble_eq_true rfl) ?_
  intro p e s m below meth c args A Q ls hx hb hml hown hts hK hZ hA hP hD hS hl hri hrv
  have hown : s.vm.findClass RX5 = some m.cls := hown
  have hl : lv_has ls 4 [(0, .ref (a 0)), (1, .int (nI x)), (2, .int x2)] := hl
  have fl_20 := hts (.fieldLink RX5 20 "LockDeskModel" "held" "[I") (by decide +kernel)
  have hin5 : ∀ w ∈ wsX50, w ∈ wsX5_end := by decide +kernel
  refine lv_iload_n hx hb dX5_end_0 rfl (lv_at hl 1 rfl) ?_
  refine kS (As := [.int (nI x)]) (rest := []) ⟨hx, hb, hml, hown, hts⟩ (c_X5_isSession l G [(cB, .byte), (cI, .int), (cZ, .boolean)] tc (wm a cB cI cZ ag (nI g) ow ru hd kd tb md lv dr nb bg (nI t0) (nI q) lr lb lh) (nI x)) (va_cwS 1 hts gX5_end_X5_isSession rfl rfl rfl (by decide +kernel) ⟨by decide, by decide⟩) hK hZ hA hP hD hS rfl hl.1 rfl (Nat.le_of_ble_eq_true rfl) dX5_end_1 ⟨Nat.zero_le _, Nat.zero_le _⟩ (fun v w' H locs hp hP hD hS => ?_)
  obtain ⟨rfl, rfl⟩ := hp
  have hP : va_P G vwCl (wm a cB cI cZ ag (nI g) ow ru hd kd tb md lv dr nb bg (nI t0) (nI q) lr lb lh) H := hP
  have hD : va_D A (wm a cB cI cZ ag (nI g) ow ru hd kd tb md lv dr nb bg (nI t0) (nI q) lr lb lh) := hD
  refine W.eq (g2 := F0 m 4 ls [.int (fw_b (px_isS (nI x)))]) rfl ?_
  refine lv_if_eq (tgt := 17) hx hb dX5_end_4 (by decide) (fun c_4 => False.elim (by rw [px_isS_nI x hx6] at c_4; exact absurd c_4 (by decide))) (fun c_4 => ?_)
  have c_4 := fw_b1.mp c_4
  refine lv_iload_n hx hb dX5_end_7 rfl (lv_at hl 2 rfl) ?_
  refine lv_iconst (v := 0) hx hb dX5_end_8 (by decide) ?_
  refine lv_bipush (v := 7) hx hb dX5_end_9 (by decide) ?_
  refine kS (As := [.int x2, .int 0, .int 7]) (rest := []) ⟨hx, hb, hml, hown, hts⟩ (c_X5_in l G [(cB, .byte), (cI, .int), (cZ, .boolean)] tc (wm a cB cI cZ ag (nI g) ow ru hd kd tb md lv dr nb bg (nI t0) (nI q) lr lb lh) x2 0 7) (va_cwS 3 hts gX5_end_X5_in rfl rfl rfl (by decide +kernel) ⟨by decide, by decide⟩) hK hZ hA hP hD hS rfl hl.1 rfl (Nat.le_of_ble_eq_true rfl) dX5_end_11 ⟨Nat.zero_le _, Nat.zero_le _⟩ (fun v w' H locs hp hP hD hS => ?_)
  obtain ⟨rfl, rfl⟩ := hp
  rw [mx_inT]
  have hP : va_P G vwCl (wm a cB cI cZ ag (nI g) ow ru hd kd tb md lv dr nb bg (nI t0) (nI q) lr lb lh) H := hP
  have hD : va_D A (wm a cB cI cZ ag (nI g) ow ru hd kd tb md lv dr nb bg (nI t0) (nI q) lr lb lh) := hD
  refine W.eq (g2 := F0 m 14 ls [.int (fw_b (px_isT x2))]) rfl ?_
  refine lv_if_ne (tgt := 19) hx hb dX5_end_14 (by decide) (fun c_14 => ?_) (fun c_14 => False.elim (by rw [h2] at c_14; exact absurd c_14 (by decide)))
  have c_14 := fw_b1.mp c_14
  refine lv_bipush (v := 72) hx hb dX5_end_19 (by decide) ?_
  refine lv_iload_n hx hb dX5_end_21 rfl (lv_at hl 1 rfl) ?_
  refine lv_imul hx hb dX5_end_22 ?_
  rw [mx_72]
  refine lv_istore_n (lv' := [(3, .int (nI (72 * x))), (0, .ref (a 0)), (1, .int (nI x)), (2, .int x2)]) hx hb dX5_end_23 rfl hl (by decide) rfl (fun ls hl => ?_)
  have lp_24 : ∀ (nf : Nat) (i : Nat) (f : Nat → Int32) (H : Heap) (locs : List Loc) (ls : Array Slot), 72 - i < nf → (i ≤ 72) → (f = fw_it (mx_endS x x2 0) i hd) → va_P G vwCl (wm a cB cI cZ ag (nI g) ow ru f kd tb md lv dr nb bg (nI t0) (nI q) lr lb lh) H → va_D A (wm a cB cI cZ ag (nI g) ow ru f kd tb md lv dr nb bg (nI t0) (nI q) lr lb lh) → va_S A s.heap H locs → lv_has ls 4 [(3, .int (nI (72 * x + i))), (0, .ref (a 0)), (1, .int (nI x)), (2, .int x2)] → W p l e rmX5_end s m args below meth c H locs 0 0 Q (F0 m 24 ls []) := by
    intro nf
    induction nf with
    | zero => intro i f H locs ls h0; exact absurd h0 (Nat.not_lt_zero _)
    | succ nf_24 ih_24 =>
      intro i f H locs ls hn_24 hi hf hP hD hS hl
      refine lv_iload_n hx hb dX5_end_24 rfl (lv_at hl 0 rfl) ?_
      refine lv_bipush (v := 72) hx hb dX5_end_25 (by decide) ?_
      refine lv_iload_n hx hb dX5_end_27 rfl (lv_at hl 2 rfl) ?_
      refine lv_imul hx hb dX5_end_28 ?_
      refine lv_bipush (v := 72) hx hb dX5_end_29 (by decide) ?_
      refine lv_iadd hx hb dX5_end_31 ?_
      refine lv_icmp_ge (tgt := 67) hx hb dX5_end_32 (by decide) (fun c_32 => ?_) (fun c_32 => ?_)
      · have hE : i = 72 := by
          have := fw_nle (by rw [mx_7272] at c_32; exact c_32) (by omega) (by omega)
          omega
        refine lv_iconst (v := 1) hx hb dX5_end_67 (by decide) ?_
        exact hri _ rfl 1 _ _ _ _ _ (by decide) (⟨rfl, by rw [hf, hE]; rfl⟩) hP hD hS dX5_end_68
      · have hL : i < 72 := by
          have := fw_nlt (by rw [mx_7272] at c_32; exact c_32) (by omega) (by omega)
          omega
        refine lv_aload_n hx hb dX5_end_35 rfl (lv_at hl 1 rfl) ?_
        refine va_get (D := G) (ci := 5) (v := .ref (a 4)) (C := RX5) (T := TX5) (N := 17) hx hb hts hin5 hown hK hP 0 rfl rfl 4 (by decide) fl_20 (fun _ h9 => h9) rfl dX5_end_36 ?_
        refine lv_iload_n hx hb dX5_end_39 rfl (lv_at hl 0 rfl) ?_
        refine lv_aload_n hx hb dX5_end_40 rfl (lv_at hl 1 rfl) ?_
        refine va_get (D := G) (ci := 5) (v := .ref (a 4)) (C := RX5) (T := TX5) (N := 17) hx hb hts hin5 hown hK hP 0 rfl rfl 4 (by decide) fl_20 (fun _ h9 => h9) rfl dX5_end_41 ?_
        refine lv_iload_n hx hb dX5_end_44 rfl (lv_at hl 0 rfl) ?_
        refine fw_iald (j := (72 * x + i)) (f := f) hx hb hK hP 4 1 rfl rfl (by omega) (by decide) dX5_end_45 ?_
        refine lv_iload_n hx hb dX5_end_46 rfl (lv_at hl 3 rfl) ?_
        refine lv_icmp_le (tgt := 54) hx hb dX5_end_47 (by decide) (fun c_47 => ?_) (fun c_47 => ?_)
        · refine lv_aload_n hx hb dX5_end_54 rfl (lv_at hl 1 rfl) ?_
          refine va_get (D := G) (ci := 5) (v := .ref (a 4)) (C := RX5) (T := TX5) (N := 17) hx hb hts hin5 hown hK hP 0 rfl rfl 4 (by decide) fl_20 (fun _ h9 => h9) rfl dX5_end_55 ?_
          refine lv_iload_n hx hb dX5_end_58 rfl (lv_at hl 0 rfl) ?_
          refine fw_iald (j := (72 * x + i)) (f := f) hx hb hK hP 4 1 rfl rfl (by omega) (by decide) dX5_end_59 ?_
          refine fw_iast (j := (72 * x + i)) (f := f) (x := f (72 * x + i)) hx hb hK hP hD hS 4 1 rfl rfl (by omega) (by decide) dX5_end_60 (fun H locs hP hD hS => ?_)
          have hP : va_P G vwCl (wm a cB cI cZ ag (nI g) ow ru (upd f (72 * x + i) (f (72 * x + i))) kd tb md lv dr nb bg (nI t0) (nI q) lr lb lh) H := hP
          have hD : va_D A (wm a cB cI cZ ag (nI g) ow ru (upd f (72 * x + i) (f (72 * x + i))) kd tb md lv dr nb bg (nI t0) (nI q) lr lb lh) := hD
          refine lv_iinc (v := nI (72 * x + (i + 1))) (lv' := [(3, .int (nI (72 * x + (i + 1)))), (0, .ref (a 0)), (1, .int (nI x)), (2, .int x2)]) hx hb dX5_end_61 hl (k := 0) rfl (fw_inc _) (by decide) rfl (fun ls hl => ?_)
          refine lv_goto (tgt := 24) hx hb dX5_end_64 (by decide) ?_
          exact ih_24 (i + 1) (upd f (72 * x + i) (f (72 * x + i))) _ _ _ (by omega) (by omega) (by rw [fw_itS, ← hf]; simp [mx_endS, c_47]) hP hD hS (lv_sub hl [0, 1, 2, 3] rfl)
        · refine lv_iconst (v := 0) hx hb dX5_end_50 (by decide) ?_
          refine lv_goto (tgt := 60) hx hb dX5_end_51 (by decide) ?_
          refine fw_iast (j := (72 * x + i)) (f := f) (x := 0) hx hb hK hP hD hS 4 1 rfl rfl (by omega) (by decide) dX5_end_60 (fun H locs hP hD hS => ?_)
          have hP : va_P G vwCl (wm a cB cI cZ ag (nI g) ow ru (upd f (72 * x + i) 0) kd tb md lv dr nb bg (nI t0) (nI q) lr lb lh) H := hP
          have hD : va_D A (wm a cB cI cZ ag (nI g) ow ru (upd f (72 * x + i) 0) kd tb md lv dr nb bg (nI t0) (nI q) lr lb lh) := hD
          refine lv_iinc (v := nI (72 * x + (i + 1))) (lv' := [(3, .int (nI (72 * x + (i + 1)))), (0, .ref (a 0)), (1, .int (nI x)), (2, .int x2)]) hx hb dX5_end_61 hl (k := 0) rfl (fw_inc _) (by decide) rfl (fun ls hl => ?_)
          refine lv_goto (tgt := 24) hx hb dX5_end_64 (by decide) ?_
          exact ih_24 (i + 1) (upd f (72 * x + i) 0) _ _ _ (by omega) (by omega) (by rw [fw_itS, ← hf]; simp [mx_endS, c_47]) hP hD hS (lv_sub hl [0, 1, 2, 3] rfl)
  exact lp_24 _ 0 hd _ _ _ (Nat.lt_succ_self _) (by omega) (rfl) hP hD hS (lv_sub hl [0, 1, 2, 3] rfl)

abbrev rmX5_release : Room := { frames := 2, cells := 0, slots := 0, locals := 42 }
set_option maxHeartbeats 4000000 in
set_option maxRecDepth 100000 in
theorem m_release_no (l : Launch) (G : va_G) (cB cI cZ : ClassId) (tc : Nat) (a : Nat → Nat) (ag ow ru hd kd tb md lv dr nb bg lr lb lh : Nat → Int32) (g : Nat) (t0 : Nat) (q : Nat) (x1 : Int32) (x2 : Int32) (h : (px_isS x1 && mx_in x2 1 7) = false) : KC l yX5_release wsX5_release rmX5_release G [(cB, .byte), (cI, .int), (cZ, .boolean)] tc [.ref (a 0), .int x1, .int x2] (wm a cB cI cZ ag (nI g) ow ru hd kd tb md lv dr nb bg (nI t0) (nI q) lr lb lh) (fun v w' => v = some (.int (0)) ∧ w' = (wm a cB cI cZ ag (nI g) ow ru hd kd tb md lv dr nb bg (nI t0) (nI q) lr lb lh)) := by
  refine KC.of (cc := cX5_release) (maxL := 4) (ret := some .boolean) (by decide) rfl (Nat.le_of_ble_eq_true rfl) ?_
  intro p e s m below meth c args A Q ls hx hb hml hown hts hK hZ hA hP hD hS hl hri hrv
  have hown : s.vm.findClass RX5 = some m.cls := hown
  have hl : lv_has ls 4 [(0, .ref (a 0)), (1, .int x1), (2, .int x2)] := hl
  have fl_20 := hts (.fieldLink RX5 20 "LockDeskModel" "held" "[I") (by decide +kernel)
  have fl_32 := hts (.fieldLink RX5 32 "LockDeskModel" "level" "[I") (by decide +kernel)
  have hin5 : ∀ w ∈ wsX50, w ∈ wsX5_release := by decide +kernel
  refine lv_iload_n hx hb dX5_release_0 rfl (lv_at hl 1 rfl) ?_
  refine kS (As := [.int x1]) (rest := []) ⟨hx, hb, hml, hown, hts⟩ (c_X5_isSession l G [(cB, .byte), (cI, .int), (cZ, .boolean)] tc (wm a cB cI cZ ag (nI g) ow ru hd kd tb md lv dr nb bg (nI t0) (nI q) lr lb lh) x1) (va_cwS 1 hts gX5_release_X5_isSession rfl rfl rfl (by decide +kernel) ⟨by decide, by decide⟩) hK hZ hA hP hD hS rfl hl.1 rfl (Nat.le_of_ble_eq_true rfl) dX5_release_1 ⟨Nat.zero_le _, Nat.zero_le _⟩ (fun v w' H locs hp hP hD hS => ?_)
  obtain ⟨rfl, rfl⟩ := hp
  have hP : va_P G vwCl (wm a cB cI cZ ag (nI g) ow ru hd kd tb md lv dr nb bg (nI t0) (nI q) lr lb lh) H := hP
  have hD : va_D A (wm a cB cI cZ ag (nI g) ow ru hd kd tb md lv dr nb bg (nI t0) (nI q) lr lb lh) := hD
  refine W.eq (g2 := F0 m 4 ls [.int (fw_b (px_isS x1))]) rfl ?_
  refine lv_if_eq (tgt := 17) hx hb dX5_release_4 (by decide) (fun c_4 => ?_) (fun c_4 => ?_)
  · have c_4 := fw_b0.mp c_4
    refine lv_iconst (v := 0) hx hb dX5_release_17 (by decide) ?_
    exact hri _ rfl 0 _ _ _ _ _ (by decide) (⟨rfl, rfl⟩) hP hD hS dX5_release_18
  · have c_4 := fw_b1.mp c_4
    refine lv_iload_n hx hb dX5_release_7 rfl (lv_at hl 2 rfl) ?_
    refine lv_iconst (v := 1) hx hb dX5_release_8 (by decide) ?_
    refine lv_bipush (v := 7) hx hb dX5_release_9 (by decide) ?_
    refine kS (As := [.int x2, .int 1, .int 7]) (rest := []) ⟨hx, hb, hml, hown, hts⟩ (c_X5_in l G [(cB, .byte), (cI, .int), (cZ, .boolean)] tc (wm a cB cI cZ ag (nI g) ow ru hd kd tb md lv dr nb bg (nI t0) (nI q) lr lb lh) x2 1 7) (va_cwS 3 hts gX5_release_X5_in rfl rfl rfl (by decide +kernel) ⟨by decide, by decide⟩) hK hZ hA hP hD hS rfl hl.1 rfl (Nat.le_of_ble_eq_true rfl) dX5_release_11 ⟨Nat.zero_le _, Nat.zero_le _⟩ (fun v w' H locs hp hP hD hS => ?_)
    obtain ⟨rfl, rfl⟩ := hp
    have hP : va_P G vwCl (wm a cB cI cZ ag (nI g) ow ru hd kd tb md lv dr nb bg (nI t0) (nI q) lr lb lh) H := hP
    have hD : va_D A (wm a cB cI cZ ag (nI g) ow ru hd kd tb md lv dr nb bg (nI t0) (nI q) lr lb lh) := hD
    refine W.eq (g2 := F0 m 14 ls [.int (fw_b (mx_in x2 1 7))]) rfl ?_
    refine lv_if_ne (tgt := 19) hx hb dX5_release_14 (by decide) (fun c_14 => False.elim (by have c_14 := fw_b1.mp c_14; simp [c_4, c_14] at h)) (fun c_14 => ?_)
    have c_14 := fw_b0.mp c_14
    refine lv_iconst (v := 0) hx hb dX5_release_17 (by decide) ?_
    exact hri _ rfl 0 _ _ _ _ _ (by decide) (⟨rfl, rfl⟩) hP hD hS dX5_release_18

set_option maxHeartbeats 4000000 in
set_option maxRecDepth 100000 in
theorem m_release_ok (l : Launch) (G : va_G) (cB cI cZ : ClassId) (tc : Nat) (a : Nat → Nat) (ag ow ru hd kd tb md lv dr nb bg lr lb lh : Nat → Int32) (g : Nat) (t0 : Nat) (q : Nat) (x : Nat) (z : Nat) (hx6 : x < 6) (hz7 : z < 7) (h2 : mx_in (nI (z + 1)) 1 7 = true) : KC l yX5_release wsX5_release rmX5_release G [(cB, .byte), (cI, .int), (cZ, .boolean)] tc [.ref (a 0), .int (nI x), .int (nI (z + 1))] (wm a cB cI cZ ag (nI g) ow ru hd kd tb md lv dr nb bg (nI t0) (nI q) lr lb lh) (fun v w' => v = some (.int (1)) ∧ w' = (wm a cB cI cZ ag (nI g) ow ru (mx_end x (nI (z + 1)) (nI (z + 1)) hd) kd tb md (upd lv x (if lv x < nI (z + 1) then lv x else nI z)) dr nb bg (nI t0) (nI q) lr lb lh)) := by
  refine KC.of (cc := cX5_release) (maxL := 4) (ret := some .boolean) (by decide) rfl (Nat.le_of_ble_eq_true rfl) ?_
  intro p e s m below meth c args A Q ls hx hb hml hown hts hK hZ hA hP hD hS hl hri hrv
  have hown : s.vm.findClass RX5 = some m.cls := hown
  have hl : lv_has ls 4 [(0, .ref (a 0)), (1, .int (nI x)), (2, .int (nI (z + 1)))] := hl
  have fl_20 := hts (.fieldLink RX5 20 "LockDeskModel" "held" "[I") (by decide +kernel)
  have fl_32 := hts (.fieldLink RX5 32 "LockDeskModel" "level" "[I") (by decide +kernel)
  have hin5 : ∀ w ∈ wsX50, w ∈ wsX5_release := by decide +kernel
  refine lv_iload_n hx hb dX5_release_0 rfl (lv_at hl 1 rfl) ?_
  refine kS (As := [.int (nI x)]) (rest := []) ⟨hx, hb, hml, hown, hts⟩ (c_X5_isSession l G [(cB, .byte), (cI, .int), (cZ, .boolean)] tc (wm a cB cI cZ ag (nI g) ow ru hd kd tb md lv dr nb bg (nI t0) (nI q) lr lb lh) (nI x)) (va_cwS 1 hts gX5_release_X5_isSession rfl rfl rfl (by decide +kernel) ⟨by decide, by decide⟩) hK hZ hA hP hD hS rfl hl.1 rfl (Nat.le_of_ble_eq_true rfl) dX5_release_1 ⟨Nat.zero_le _, Nat.zero_le _⟩ (fun v w' H locs hp hP hD hS => ?_)
  obtain ⟨rfl, rfl⟩ := hp
  have hP : va_P G vwCl (wm a cB cI cZ ag (nI g) ow ru hd kd tb md lv dr nb bg (nI t0) (nI q) lr lb lh) H := hP
  have hD : va_D A (wm a cB cI cZ ag (nI g) ow ru hd kd tb md lv dr nb bg (nI t0) (nI q) lr lb lh) := hD
  refine W.eq (g2 := F0 m 4 ls [.int (fw_b (px_isS (nI x)))]) rfl ?_
  refine lv_if_eq (tgt := 17) hx hb dX5_release_4 (by decide) (fun c_4 => False.elim (by rw [px_isS_nI x hx6] at c_4; exact absurd c_4 (by decide))) (fun c_4 => ?_)
  have c_4 := fw_b1.mp c_4
  refine lv_iload_n hx hb dX5_release_7 rfl (lv_at hl 2 rfl) ?_
  refine lv_iconst (v := 1) hx hb dX5_release_8 (by decide) ?_
  refine lv_bipush (v := 7) hx hb dX5_release_9 (by decide) ?_
  refine kS (As := [.int (nI (z + 1)), .int 1, .int 7]) (rest := []) ⟨hx, hb, hml, hown, hts⟩ (c_X5_in l G [(cB, .byte), (cI, .int), (cZ, .boolean)] tc (wm a cB cI cZ ag (nI g) ow ru hd kd tb md lv dr nb bg (nI t0) (nI q) lr lb lh) (nI (z + 1)) 1 7) (va_cwS 3 hts gX5_release_X5_in rfl rfl rfl (by decide +kernel) ⟨by decide, by decide⟩) hK hZ hA hP hD hS rfl hl.1 rfl (Nat.le_of_ble_eq_true rfl) dX5_release_11 ⟨Nat.zero_le _, Nat.zero_le _⟩ (fun v w' H locs hp hP hD hS => ?_)
  obtain ⟨rfl, rfl⟩ := hp
  have hP : va_P G vwCl (wm a cB cI cZ ag (nI g) ow ru hd kd tb md lv dr nb bg (nI t0) (nI q) lr lb lh) H := hP
  have hD : va_D A (wm a cB cI cZ ag (nI g) ow ru hd kd tb md lv dr nb bg (nI t0) (nI q) lr lb lh) := hD
  refine W.eq (g2 := F0 m 14 ls [.int (fw_b (mx_in (nI (z + 1)) 1 7))]) rfl ?_
  refine lv_if_ne (tgt := 19) hx hb dX5_release_14 (by decide) (fun c_14 => ?_) (fun c_14 => False.elim (by rw [h2] at c_14; exact absurd c_14 (by decide)))
  have c_14 := fw_b1.mp c_14
  refine lv_bipush (v := 72) hx hb dX5_release_19 (by decide) ?_
  refine lv_iload_n hx hb dX5_release_21 rfl (lv_at hl 1 rfl) ?_
  refine lv_imul hx hb dX5_release_22 ?_
  rw [mx_72]
  refine lv_istore_n (lv' := [(3, .int (nI (72 * x))), (0, .ref (a 0)), (1, .int (nI x)), (2, .int (nI (z + 1)))]) hx hb dX5_release_23 rfl hl (by decide) rfl (fun ls hl => ?_)
  have lp_24 : ∀ (nf : Nat) (i : Nat) (f : Nat → Int32) (H : Heap) (locs : List Loc) (ls : Array Slot), 72 - i < nf → (i ≤ 72) → (f = fw_it (mx_endS x (nI (z + 1)) (nI (z + 1))) i hd) → va_P G vwCl (wm a cB cI cZ ag (nI g) ow ru f kd tb md lv dr nb bg (nI t0) (nI q) lr lb lh) H → va_D A (wm a cB cI cZ ag (nI g) ow ru f kd tb md lv dr nb bg (nI t0) (nI q) lr lb lh) → va_S A s.heap H locs → lv_has ls 4 [(3, .int (nI (72 * x + i))), (0, .ref (a 0)), (1, .int (nI x)), (2, .int (nI (z + 1)))] → W p l e rmX5_release s m args below meth c H locs 0 0 Q (F0 m 24 ls []) := by
    intro nf
    induction nf with
    | zero => intro i f H locs ls h0; exact absurd h0 (Nat.not_lt_zero _)
    | succ nf_24 ih_24 =>
      intro i f H locs ls hn_24 hi hf hP hD hS hl
      refine lv_iload_n hx hb dX5_release_24 rfl (lv_at hl 0 rfl) ?_
      refine lv_bipush (v := 72) hx hb dX5_release_25 (by decide) ?_
      refine lv_iload_n hx hb dX5_release_27 rfl (lv_at hl 2 rfl) ?_
      refine lv_imul hx hb dX5_release_28 ?_
      refine lv_bipush (v := 72) hx hb dX5_release_29 (by decide) ?_
      refine lv_iadd hx hb dX5_release_31 ?_
      refine lv_icmp_ge (tgt := 67) hx hb dX5_release_32 (by decide) (fun c_32 => ?_) (fun c_32 => ?_)
      · have hE : i = 72 := by
          have := fw_nle (by rw [mx_7272] at c_32; exact c_32) (by omega) (by omega)
          omega
        refine lv_aload_n hx hb dX5_release_67 rfl (lv_at hl 1 rfl) ?_
        refine va_get (D := G) (ci := 5) (v := .ref (a 8)) (C := RX5) (T := TX5) (N := 17) hx hb hts hin5 hown hK hP 0 rfl rfl 8 (by decide) fl_32 (fun _ h9 => h9) rfl dX5_release_68 ?_
        refine lv_iload_n hx hb dX5_release_71 rfl (lv_at hl 2 rfl) ?_
        refine lv_aload_n hx hb dX5_release_72 rfl (lv_at hl 1 rfl) ?_
        refine va_get (D := G) (ci := 5) (v := .ref (a 8)) (C := RX5) (T := TX5) (N := 17) hx hb hts hin5 hown hK hP 0 rfl rfl 8 (by decide) fl_32 (fun _ h9 => h9) rfl dX5_release_73 ?_
        refine lv_iload_n hx hb dX5_release_76 rfl (lv_at hl 2 rfl) ?_
        refine fw_iald (j := x) (f := lv) hx hb hK hP 8 1 rfl rfl (by omega) (by decide) dX5_release_77 ?_
        refine lv_iload_n hx hb dX5_release_78 rfl (lv_at hl 3 rfl) ?_
        refine lv_icmp_lt (tgt := 88) hx hb dX5_release_79 (by decide) (fun c_79 => ?_) (fun c_79 => ?_)
        · refine lv_aload_n hx hb dX5_release_88 rfl (lv_at hl 1 rfl) ?_
          refine va_get (D := G) (ci := 5) (v := .ref (a 8)) (C := RX5) (T := TX5) (N := 17) hx hb hts hin5 hown hK hP 0 rfl rfl 8 (by decide) fl_32 (fun _ h9 => h9) rfl dX5_release_89 ?_
          refine lv_iload_n hx hb dX5_release_92 rfl (lv_at hl 2 rfl) ?_
          refine fw_iald (j := x) (f := lv) hx hb hK hP 8 1 rfl rfl (by omega) (by decide) dX5_release_93 ?_
          refine fw_iast (j := x) (f := lv) (x := lv x) hx hb hK hP hD hS 8 1 rfl rfl (by omega) (by decide) dX5_release_94 (fun H locs hP hD hS => ?_)
          have hP : va_P G vwCl (wm a cB cI cZ ag (nI g) ow ru f kd tb md (upd lv x (lv x)) dr nb bg (nI t0) (nI q) lr lb lh) H := hP
          have hD : va_D A (wm a cB cI cZ ag (nI g) ow ru f kd tb md (upd lv x (lv x)) dr nb bg (nI t0) (nI q) lr lb lh) := hD
          refine lv_iconst (v := 1) hx hb dX5_release_95 (by decide) ?_
          exact hri _ rfl 1 _ _ _ _ _ (by decide) (⟨rfl, by rw [hf, hE, if_pos c_79]; rfl⟩) hP hD hS dX5_release_96
        · refine lv_iload_n hx hb dX5_release_82 rfl (lv_at hl 3 rfl) ?_
          refine lv_iconst (v := 1) hx hb dX5_release_83 (by decide) ?_
          refine lv_isub hx hb dX5_release_84 ?_
          rw [nI_pred z]
          refine lv_goto (tgt := 94) hx hb dX5_release_85 (by decide) ?_
          refine fw_iast (j := x) (f := lv) (x := nI z) hx hb hK hP hD hS 8 1 rfl rfl (by omega) (by decide) dX5_release_94 (fun H locs hP hD hS => ?_)
          have hP : va_P G vwCl (wm a cB cI cZ ag (nI g) ow ru f kd tb md (upd lv x (nI z)) dr nb bg (nI t0) (nI q) lr lb lh) H := hP
          have hD : va_D A (wm a cB cI cZ ag (nI g) ow ru f kd tb md (upd lv x (nI z)) dr nb bg (nI t0) (nI q) lr lb lh) := hD
          refine lv_iconst (v := 1) hx hb dX5_release_95 (by decide) ?_
          exact hri _ rfl 1 _ _ _ _ _ (by decide) (⟨rfl, by rw [hf, hE, if_neg c_79]; rfl⟩) hP hD hS dX5_release_96
      · have hL : i < 72 := by
          have := fw_nlt (by rw [mx_7272] at c_32; exact c_32) (by omega) (by omega)
          omega
        refine lv_aload_n hx hb dX5_release_35 rfl (lv_at hl 1 rfl) ?_
        refine va_get (D := G) (ci := 5) (v := .ref (a 4)) (C := RX5) (T := TX5) (N := 17) hx hb hts hin5 hown hK hP 0 rfl rfl 4 (by decide) fl_20 (fun _ h9 => h9) rfl dX5_release_36 ?_
        refine lv_iload_n hx hb dX5_release_39 rfl (lv_at hl 0 rfl) ?_
        refine lv_aload_n hx hb dX5_release_40 rfl (lv_at hl 1 rfl) ?_
        refine va_get (D := G) (ci := 5) (v := .ref (a 4)) (C := RX5) (T := TX5) (N := 17) hx hb hts hin5 hown hK hP 0 rfl rfl 4 (by decide) fl_20 (fun _ h9 => h9) rfl dX5_release_41 ?_
        refine lv_iload_n hx hb dX5_release_44 rfl (lv_at hl 0 rfl) ?_
        refine fw_iald (j := (72 * x + i)) (f := f) hx hb hK hP 4 1 rfl rfl (by omega) (by decide) dX5_release_45 ?_
        refine lv_iload_n hx hb dX5_release_46 rfl (lv_at hl 3 rfl) ?_
        refine lv_icmp_le (tgt := 54) hx hb dX5_release_47 (by decide) (fun c_47 => ?_) (fun c_47 => ?_)
        · refine lv_aload_n hx hb dX5_release_54 rfl (lv_at hl 1 rfl) ?_
          refine va_get (D := G) (ci := 5) (v := .ref (a 4)) (C := RX5) (T := TX5) (N := 17) hx hb hts hin5 hown hK hP 0 rfl rfl 4 (by decide) fl_20 (fun _ h9 => h9) rfl dX5_release_55 ?_
          refine lv_iload_n hx hb dX5_release_58 rfl (lv_at hl 0 rfl) ?_
          refine fw_iald (j := (72 * x + i)) (f := f) hx hb hK hP 4 1 rfl rfl (by omega) (by decide) dX5_release_59 ?_
          refine fw_iast (j := (72 * x + i)) (f := f) (x := f (72 * x + i)) hx hb hK hP hD hS 4 1 rfl rfl (by omega) (by decide) dX5_release_60 (fun H locs hP hD hS => ?_)
          have hP : va_P G vwCl (wm a cB cI cZ ag (nI g) ow ru (upd f (72 * x + i) (f (72 * x + i))) kd tb md lv dr nb bg (nI t0) (nI q) lr lb lh) H := hP
          have hD : va_D A (wm a cB cI cZ ag (nI g) ow ru (upd f (72 * x + i) (f (72 * x + i))) kd tb md lv dr nb bg (nI t0) (nI q) lr lb lh) := hD
          refine lv_iinc (v := nI (72 * x + (i + 1))) (lv' := [(3, .int (nI (72 * x + (i + 1)))), (0, .ref (a 0)), (1, .int (nI x)), (2, .int (nI (z + 1)))]) hx hb dX5_release_61 hl (k := 0) rfl (fw_inc _) (by decide) rfl (fun ls hl => ?_)
          refine lv_goto (tgt := 24) hx hb dX5_release_64 (by decide) ?_
          exact ih_24 (i + 1) (upd f (72 * x + i) (f (72 * x + i))) _ _ _ (by omega) (by omega) (by rw [fw_itS, ← hf]; simp [mx_endS, c_47]) hP hD hS (lv_sub hl [0, 1, 2, 3] rfl)
        · refine lv_iload_n hx hb dX5_release_50 rfl (lv_at hl 3 rfl) ?_
          refine lv_goto (tgt := 60) hx hb dX5_release_51 (by decide) ?_
          refine fw_iast (j := (72 * x + i)) (f := f) (x := nI (z + 1)) hx hb hK hP hD hS 4 1 rfl rfl (by omega) (by decide) dX5_release_60 (fun H locs hP hD hS => ?_)
          have hP : va_P G vwCl (wm a cB cI cZ ag (nI g) ow ru (upd f (72 * x + i) (nI (z + 1))) kd tb md lv dr nb bg (nI t0) (nI q) lr lb lh) H := hP
          have hD : va_D A (wm a cB cI cZ ag (nI g) ow ru (upd f (72 * x + i) (nI (z + 1))) kd tb md lv dr nb bg (nI t0) (nI q) lr lb lh) := hD
          refine lv_iinc (v := nI (72 * x + (i + 1))) (lv' := [(3, .int (nI (72 * x + (i + 1)))), (0, .ref (a 0)), (1, .int (nI x)), (2, .int (nI (z + 1)))]) hx hb dX5_release_61 hl (k := 0) rfl (fw_inc _) (by decide) rfl (fun ls hl => ?_)
          refine lv_goto (tgt := 24) hx hb dX5_release_64 (by decide) ?_
          exact ih_24 (i + 1) (upd f (72 * x + i) (nI (z + 1))) _ _ _ (by omega) (by omega) (by rw [fw_itS, ← hf]; simp [mx_endS, c_47]) hP hD hS (lv_sub hl [0, 1, 2, 3] rfl)
  exact lp_24 _ 0 hd _ _ _ (Nat.lt_succ_self _) (by omega) (rfl) hP hD hS (lv_sub hl [0, 1, 2, 3] rfl)

abbrev rmX5_drop : Room := { frames := 1, cells := 0, slots := 0, locals := 22 }
set_option maxHeartbeats 4000000 in
set_option maxRecDepth 100000 in
theorem m_drop_no (l : Launch) (G : va_G) (cB cI cZ : ClassId) (tc : Nat) (a : Nat → Nat) (ag ow ru hd kd tb md lv dr nb bg lr lb lh : Nat → Int32) (g : Nat) (t0 : Nat) (q : Nat) (x1 : Int32) (h : px_isT x1 = false) : KC l yX5_drop wsX5_drop rmX5_drop G [(cB, .byte), (cI, .int), (cZ, .boolean)] tc [.ref (a 0), .int x1] (wm a cB cI cZ ag (nI g) ow ru hd kd tb md lv dr nb bg (nI t0) (nI q) lr lb lh) (fun v w' => v = some (.int (0)) ∧ w' = (wm a cB cI cZ ag (nI g) ow ru hd kd tb md lv dr nb bg (nI t0) (nI q) lr lb lh)) := by
  refine KC.of (cc := cX5_drop) (maxL := 4) (ret := some .boolean) (by decide) rfl (Nat.le_of_ble_eq_true rfl) ?_
  intro p e s m below meth c args A Q ls hx hb hml hown hts hK hZ hA hP hD hS hl hri hrv
  have hown : s.vm.findClass RX5 = some m.cls := hown
  have hl : lv_has ls 4 [(0, .ref (a 0)), (1, .int x1)] := hl
  have fl_20 := hts (.fieldLink RX5 20 "LockDeskModel" "held" "[I") (by decide +kernel)
  have fl_23 := hts (.fieldLink RX5 23 "LockDeskModel" "kind" "[I") (by decide +kernel)
  have fl_26 := hts (.fieldLink RX5 26 "LockDeskModel" "table" "[I") (by decide +kernel)
  have fl_35 := hts (.fieldLink RX5 35 "LockDeskModel" "dropped" "[Z") (by decide +kernel)
  have hin5 : ∀ w ∈ wsX50, w ∈ wsX5_drop := by decide +kernel
  refine lv_iload_n hx hb dX5_drop_0 rfl (lv_at hl 1 rfl) ?_
  refine lv_iconst (v := 0) hx hb dX5_drop_1 (by decide) ?_
  refine lv_bipush (v := 7) hx hb dX5_drop_2 (by decide) ?_
  refine kS (As := [.int x1, .int 0, .int 7]) (rest := []) ⟨hx, hb, hml, hown, hts⟩ (c_X5_in l G [(cB, .byte), (cI, .int), (cZ, .boolean)] tc (wm a cB cI cZ ag (nI g) ow ru hd kd tb md lv dr nb bg (nI t0) (nI q) lr lb lh) x1 0 7) (va_cwS 3 hts gX5_drop_X5_in rfl rfl rfl (by decide +kernel) ⟨by decide, by decide⟩) hK hZ hA hP hD hS rfl hl.1 rfl (Nat.le_of_ble_eq_true rfl) dX5_drop_4 ⟨Nat.zero_le _, Nat.zero_le _⟩ (fun v w' H locs hp hP hD hS => ?_)
  obtain ⟨rfl, rfl⟩ := hp
  rw [mx_inT]
  have hP : va_P G vwCl (wm a cB cI cZ ag (nI g) ow ru hd kd tb md lv dr nb bg (nI t0) (nI q) lr lb lh) H := hP
  have hD : va_D A (wm a cB cI cZ ag (nI g) ow ru hd kd tb md lv dr nb bg (nI t0) (nI q) lr lb lh) := hD
  refine W.eq (g2 := F0 m 7 ls [.int (fw_b (px_isT x1))]) rfl ?_
  refine lv_if_ne (tgt := 12) hx hb dX5_drop_7 (by decide) (fun c_7 => False.elim (by rw [h] at c_7; exact c_7 rfl)) (fun c_7 => ?_)
  have c_7 := fw_b0.mp c_7
  refine lv_iconst (v := 0) hx hb dX5_drop_10 (by decide) ?_
  exact hri _ rfl 0 _ _ _ _ _ (by decide) (⟨rfl, rfl⟩) hP hD hS dX5_drop_11

set_option maxHeartbeats 4000000 in
set_option maxRecDepth 100000 in
theorem m_drop_ok (l : Launch) (G : va_G) (cB cI cZ : ClassId) (tc : Nat) (a : Nat → Nat) (ag ow ru hd kd tb md lv dr nb bg lr lb lh : Nat → Int32) (g : Nat) (t0 : Nat) (q : Nat) (y : Nat) (hy8 : y < 8) : KC l yX5_drop wsX5_drop rmX5_drop G [(cB, .byte), (cI, .int), (cZ, .boolean)] tc [.ref (a 0), .int (nI y)] (wm a cB cI cZ ag (nI g) ow ru hd kd tb md lv dr nb bg (nI t0) (nI q) lr lb lh) (fun v w' => v = some (.int (1)) ∧ w' = (wm a cB cI cZ ag (nI g) ow ru ((mx_dp kd tb y (hd, dr)).1) kd tb md lv ((mx_dp kd tb y (hd, dr)).2) nb bg (nI t0) (nI q) lr lb lh)) := by
  refine KC.of (cc := cX5_drop) (maxL := 4) (ret := some .boolean) (by decide) rfl (Nat.le_of_ble_eq_true rfl) ?_
  intro p e s m below meth c args A Q ls hx hb hml hown hts hK hZ hA hP hD hS hl hri hrv
  have hown : s.vm.findClass RX5 = some m.cls := hown
  have hl : lv_has ls 4 [(0, .ref (a 0)), (1, .int (nI y))] := hl
  have fl_20 := hts (.fieldLink RX5 20 "LockDeskModel" "held" "[I") (by decide +kernel)
  have fl_23 := hts (.fieldLink RX5 23 "LockDeskModel" "kind" "[I") (by decide +kernel)
  have fl_26 := hts (.fieldLink RX5 26 "LockDeskModel" "table" "[I") (by decide +kernel)
  have fl_35 := hts (.fieldLink RX5 35 "LockDeskModel" "dropped" "[Z") (by decide +kernel)
  have hin5 : ∀ w ∈ wsX50, w ∈ wsX5_drop := by decide +kernel
  refine lv_iload_n hx hb dX5_drop_0 rfl (lv_at hl 1 rfl) ?_
  refine lv_iconst (v := 0) hx hb dX5_drop_1 (by decide) ?_
  refine lv_bipush (v := 7) hx hb dX5_drop_2 (by decide) ?_
  refine kS (As := [.int (nI y), .int 0, .int 7]) (rest := []) ⟨hx, hb, hml, hown, hts⟩ (c_X5_in l G [(cB, .byte), (cI, .int), (cZ, .boolean)] tc (wm a cB cI cZ ag (nI g) ow ru hd kd tb md lv dr nb bg (nI t0) (nI q) lr lb lh) (nI y) 0 7) (va_cwS 3 hts gX5_drop_X5_in rfl rfl rfl (by decide +kernel) ⟨by decide, by decide⟩) hK hZ hA hP hD hS rfl hl.1 rfl (Nat.le_of_ble_eq_true rfl) dX5_drop_4 ⟨Nat.zero_le _, Nat.zero_le _⟩ (fun v w' H locs hp hP hD hS => ?_)
  obtain ⟨rfl, rfl⟩ := hp
  rw [mx_inT]
  have hP : va_P G vwCl (wm a cB cI cZ ag (nI g) ow ru hd kd tb md lv dr nb bg (nI t0) (nI q) lr lb lh) H := hP
  have hD : va_D A (wm a cB cI cZ ag (nI g) ow ru hd kd tb md lv dr nb bg (nI t0) (nI q) lr lb lh) := hD
  refine W.eq (g2 := F0 m 7 ls [.int (fw_b (px_isT (nI y)))]) rfl ?_
  refine lv_if_ne (tgt := 12) hx hb dX5_drop_7 (by decide) (fun c_7 => ?_) (fun c_7 => False.elim (by rw [px_isT_nI y hy8] at c_7; exact absurd c_7 (by decide)))
  have c_7 := fw_b1.mp c_7
  refine lv_iconst (v := 0) hx hb dX5_drop_12 (by decide) ?_
  refine lv_istore_n (lv' := [(2, .int 0), (0, .ref (a 0)), (1, .int (nI y))]) hx hb dX5_drop_13 rfl hl (by decide) rfl (fun ls hl => ?_)
  have lp_14 : ∀ (nf : Nat) (x : Nat) (f d : Nat → Int32) (H : Heap) (locs : List Loc) (ls : Array Slot), 6 - x < nf → (x ≤ 6) → ((f, d) = fw_it (mx_dpS kd tb y) x (hd, dr)) → va_P G vwCl (wm a cB cI cZ ag (nI g) ow ru f kd tb md lv d nb bg (nI t0) (nI q) lr lb lh) H → va_D A (wm a cB cI cZ ag (nI g) ow ru f kd tb md lv d nb bg (nI t0) (nI q) lr lb lh) → va_S A s.heap H locs → lv_has ls 4 [(2, .int (nI x)), (0, .ref (a 0)), (1, .int (nI y))] → W p l e rmX5_drop s m args below meth c H locs 0 0 Q (F0 m 14 ls []) := by
    intro nf
    induction nf with
    | zero => intro x f d H locs ls h0; exact absurd h0 (Nat.not_lt_zero _)
    | succ nf_14 ih_14 =>
      intro x f d H locs ls hn_14 hx6 hf hP hD hS hl
      refine lv_iload_n hx hb dX5_drop_14 rfl (lv_at hl 0 rfl) ?_
      refine lv_bipush (v := 6) hx hb dX5_drop_15 (by decide) ?_
      refine lv_icmp_ge (tgt := 97) hx hb dX5_drop_17 (by decide) (fun c_17 => ?_) (fun c_17 => ?_)
      · have hE : x = 6 := by
          have := fw_nle (a := 6) c_17 (by omega) (by omega)
          omega
        refine lv_iconst (v := 1) hx hb dX5_drop_97 (by decide) ?_
        exact hri _ rfl 1 _ _ _ _ _ (by decide) (⟨rfl, by rw [mx_dp, ← hE, ← hf]⟩) hP hD hS dX5_drop_98
      · have hL : x < 6 := by
          have := fw_nlt (a := 6) c_17 (by omega) (by omega)
          omega
        refine lv_iconst (v := 1) hx hb dX5_drop_20 (by decide) ?_
        refine lv_istore_n (lv' := [(3, .int 1), (2, .int (nI x)), (0, .ref (a 0)), (1, .int (nI y))]) hx hb dX5_drop_21 rfl hl (by decide) rfl (fun ls hl => ?_)
        have lp_22 : ∀ (nf : Nat) (i : Nat) (f2 : Nat → Int32) (H : Heap) (locs : List Loc) (ls : Array Slot), 8 - i < nf → (i ≤ 8) → (f2 = fw_it (mx_dpI y x) i f) → va_P G vwCl (wm a cB cI cZ ag (nI g) ow ru f2 kd tb md lv d nb bg (nI t0) (nI q) lr lb lh) H → va_D A (wm a cB cI cZ ag (nI g) ow ru f2 kd tb md lv d nb bg (nI t0) (nI q) lr lb lh) → va_S A s.heap H locs → lv_has ls 4 [(3, .int (nI (i + 1))), (2, .int (nI x)), (0, .ref (a 0)), (1, .int (nI y))] → W p l e rmX5_drop s m args below meth c H locs 0 0 Q (F0 m 22 ls []) := by
          intro nf
          induction nf with
          | zero => intro i f2 H locs ls h0; exact absurd h0 (Nat.not_lt_zero _)
          | succ nf_22 ih_22 =>
            intro i f2 H locs ls hn_22 hi hg hP hD hS hl
            refine lv_iload_n hx hb dX5_drop_22 rfl (lv_at hl 0 rfl) ?_
            refine lv_bipush (v := 9) hx hb dX5_drop_23 (by decide) ?_
            refine lv_icmp_ge (tgt := 51) hx hb dX5_drop_25 (by decide) (fun c_25 => ?_) (fun c_25 => ?_)
            · have hE2 : i = 8 := by
                have := fw_nle (a := 9) c_25 (by omega) (by omega)
                omega
              refine lv_aload_n hx hb dX5_drop_51 rfl (lv_at hl 2 rfl) ?_
              refine va_get (D := G) (ci := 5) (v := .ref (a 9)) (C := RX5) (T := TX5) (N := 17) hx hb hts hin5 hown hK hP 0 rfl rfl 9 (by decide) fl_35 (fun _ h9 => h9) rfl dX5_drop_52 ?_
              refine lv_iload_n hx hb dX5_drop_55 rfl (lv_at hl 1 rfl) ?_
              refine lv_aload_n hx hb dX5_drop_56 rfl (lv_at hl 2 rfl) ?_
              refine va_get (D := G) (ci := 5) (v := .ref (a 9)) (C := RX5) (T := TX5) (N := 17) hx hb hts hin5 hown hK hP 0 rfl rfl 9 (by decide) fl_35 (fun _ h9 => h9) rfl dX5_drop_57 ?_
              refine lv_iload_n hx hb dX5_drop_60 rfl (lv_at hl 1 rfl) ?_
              refine fw_zald (j := x) (f := d) hx hb hK hP 9 2 rfl rfl (by omega) (by decide) dX5_drop_61 ?_
              refine lv_if_ne (tgt := 85) hx hb dX5_drop_62 (by decide) (fun c_62 => ?_) (fun c_62 => ?_)
              · refine lv_iconst (v := 1) hx hb dX5_drop_85 (by decide) ?_
                refine lv_goto (tgt := 90) hx hb dX5_drop_86 (by decide) ?_
                refine fw_zast (j := x) (f := d) (x := 1) hx hb hK hP hD hS 9 2 rfl rfl (by omega) (by decide) (by decide) dX5_drop_90 (fun H locs hP hD hS => ?_)
                have hP : va_P G vwCl (wm a cB cI cZ ag (nI g) ow ru f2 kd tb md lv (upd d x 1) nb bg (nI t0) (nI q) lr lb lh) H := hP
                have hD : va_D A (wm a cB cI cZ ag (nI g) ow ru f2 kd tb md lv (upd d x 1) nb bg (nI t0) (nI q) lr lb lh) := hD
                refine lv_iinc (v := nI (x + 1)) (lv' := [(2, .int (nI (x + 1))), (3, .int (nI (i + 1))), (0, .ref (a 0)), (1, .int (nI y))]) hx hb dX5_drop_91 hl (k := 1) rfl (fw_inc _) (by decide) rfl (fun ls hl => ?_)
                refine lv_goto (tgt := 14) hx hb dX5_drop_94 (by decide) ?_
                exact ih_14 (x + 1) f2 (upd d x 1) _ _ _ (by omega) (by omega) (by rw [fw_itS, ← hf]; simp [mx_dpS, hg, hE2, fw_b, c_62]) hP hD hS (lv_sub hl [0, 2, 3] rfl)
              · refine lv_aload_n hx hb dX5_drop_65 rfl (lv_at hl 2 rfl) ?_
                refine va_get (D := G) (ci := 5) (v := .ref (a 5)) (C := RX5) (T := TX5) (N := 17) hx hb hts hin5 hown hK hP 0 rfl rfl 5 (by decide) fl_23 (fun _ h9 => h9) rfl dX5_drop_66 ?_
                refine lv_iload_n hx hb dX5_drop_69 rfl (lv_at hl 1 rfl) ?_
                refine fw_iald (j := x) (f := kd) hx hb hK hP 5 1 rfl rfl (by omega) (by decide) dX5_drop_70 ?_
                refine lv_iconst (v := 1) hx hb dX5_drop_71 (by decide) ?_
                refine lv_icmp_ne (tgt := 89) hx hb dX5_drop_72 (by decide) (fun c_72 => ?_) (fun c_72 => ?_)
                · refine lv_iconst (v := 0) hx hb dX5_drop_89 (by decide) ?_
                  refine fw_zast (j := x) (f := d) (x := 0) hx hb hK hP hD hS 9 2 rfl rfl (by omega) (by decide) (by decide) dX5_drop_90 (fun H locs hP hD hS => ?_)
                  have hP : va_P G vwCl (wm a cB cI cZ ag (nI g) ow ru f2 kd tb md lv (upd d x 0) nb bg (nI t0) (nI q) lr lb lh) H := hP
                  have hD : va_D A (wm a cB cI cZ ag (nI g) ow ru f2 kd tb md lv (upd d x 0) nb bg (nI t0) (nI q) lr lb lh) := hD
                  refine lv_iinc (v := nI (x + 1)) (lv' := [(2, .int (nI (x + 1))), (3, .int (nI (i + 1))), (0, .ref (a 0)), (1, .int (nI y))]) hx hb dX5_drop_91 hl (k := 1) rfl (fw_inc _) (by decide) rfl (fun ls hl => ?_)
                  refine lv_goto (tgt := 14) hx hb dX5_drop_94 (by decide) ?_
                  exact ih_14 (x + 1) f2 (upd d x 0) _ _ _ (by omega) (by omega) (by rw [fw_itS, ← hf]; simp [mx_dpS, hg, hE2, fw_b, c_62, c_72]) hP hD hS (lv_sub hl [0, 2, 3] rfl)
                · refine lv_aload_n hx hb dX5_drop_75 rfl (lv_at hl 2 rfl) ?_
                  refine va_get (D := G) (ci := 5) (v := .ref (a 6)) (C := RX5) (T := TX5) (N := 17) hx hb hts hin5 hown hK hP 0 rfl rfl 6 (by decide) fl_26 (fun _ h9 => h9) rfl dX5_drop_76 ?_
                  refine lv_iload_n hx hb dX5_drop_79 rfl (lv_at hl 1 rfl) ?_
                  refine fw_iald (j := x) (f := tb) hx hb hK hP 6 1 rfl rfl (by omega) (by decide) dX5_drop_80 ?_
                  refine lv_iload_n hx hb dX5_drop_81 rfl (lv_at hl 3 rfl) ?_
                  refine lv_icmp_ne (tgt := 89) hx hb dX5_drop_82 (by decide) (fun c_82 => ?_) (fun c_82 => ?_)
                  · refine lv_iconst (v := 0) hx hb dX5_drop_89 (by decide) ?_
                    refine fw_zast (j := x) (f := d) (x := 0) hx hb hK hP hD hS 9 2 rfl rfl (by omega) (by decide) (by decide) dX5_drop_90 (fun H locs hP hD hS => ?_)
                    have hP : va_P G vwCl (wm a cB cI cZ ag (nI g) ow ru f2 kd tb md lv (upd d x 0) nb bg (nI t0) (nI q) lr lb lh) H := hP
                    have hD : va_D A (wm a cB cI cZ ag (nI g) ow ru f2 kd tb md lv (upd d x 0) nb bg (nI t0) (nI q) lr lb lh) := hD
                    refine lv_iinc (v := nI (x + 1)) (lv' := [(2, .int (nI (x + 1))), (3, .int (nI (i + 1))), (0, .ref (a 0)), (1, .int (nI y))]) hx hb dX5_drop_91 hl (k := 1) rfl (fw_inc _) (by decide) rfl (fun ls hl => ?_)
                    refine lv_goto (tgt := 14) hx hb dX5_drop_94 (by decide) ?_
                    exact ih_14 (x + 1) f2 (upd d x 0) _ _ _ (by omega) (by omega) (by rw [fw_itS, ← hf]; simp [mx_dpS, hg, hE2, fw_b, c_62, c_72, c_82]) hP hD hS (lv_sub hl [0, 2, 3] rfl)
                  · refine lv_iconst (v := 1) hx hb dX5_drop_85 (by decide) ?_
                    refine lv_goto (tgt := 90) hx hb dX5_drop_86 (by decide) ?_
                    refine fw_zast (j := x) (f := d) (x := 1) hx hb hK hP hD hS 9 2 rfl rfl (by omega) (by decide) (by decide) dX5_drop_90 (fun H locs hP hD hS => ?_)
                    have hP : va_P G vwCl (wm a cB cI cZ ag (nI g) ow ru f2 kd tb md lv (upd d x 1) nb bg (nI t0) (nI q) lr lb lh) H := hP
                    have hD : va_D A (wm a cB cI cZ ag (nI g) ow ru f2 kd tb md lv (upd d x 1) nb bg (nI t0) (nI q) lr lb lh) := hD
                    refine lv_iinc (v := nI (x + 1)) (lv' := [(2, .int (nI (x + 1))), (3, .int (nI (i + 1))), (0, .ref (a 0)), (1, .int (nI y))]) hx hb dX5_drop_91 hl (k := 1) rfl (fw_inc _) (by decide) rfl (fun ls hl => ?_)
                    refine lv_goto (tgt := 14) hx hb dX5_drop_94 (by decide) ?_
                    exact ih_14 (x + 1) f2 (upd d x 1) _ _ _ (by omega) (by omega) (by rw [fw_itS, ← hf]; simp [mx_dpS, hg, hE2, fw_b, c_62, c_72, c_82]) hP hD hS (lv_sub hl [0, 2, 3] rfl)
            · have hL2 : i < 8 := by
                have := fw_nlt (a := 9) c_25 (by omega) (by omega)
                omega
              refine lv_aload_n hx hb dX5_drop_28 rfl (lv_at hl 2 rfl) ?_
              refine va_get (D := G) (ci := 5) (v := .ref (a 4)) (C := RX5) (T := TX5) (N := 17) hx hb hts hin5 hown hK hP 0 rfl rfl 4 (by decide) fl_20 (fun _ h9 => h9) rfl dX5_drop_29 ?_
              refine lv_bipush (v := 72) hx hb dX5_drop_32 (by decide) ?_
              refine lv_iload_n hx hb dX5_drop_34 rfl (lv_at hl 1 rfl) ?_
              refine lv_imul hx hb dX5_drop_35 ?_
              refine lv_bipush (v := 9) hx hb dX5_drop_36 (by decide) ?_
              refine lv_iload_n hx hb dX5_drop_38 rfl (lv_at hl 3 rfl) ?_
              refine lv_imul hx hb dX5_drop_39 ?_
              refine lv_iadd hx hb dX5_drop_40 ?_
              refine lv_iload_n hx hb dX5_drop_41 rfl (lv_at hl 0 rfl) ?_
              refine lv_iadd hx hb dX5_drop_42 ?_
              rw [mx_ix]
              refine lv_iconst (v := 0) hx hb dX5_drop_43 (by decide) ?_
              refine fw_iast (j := (72 * x + 9 * y + (i + 1))) (f := f2) (x := 0) hx hb hK hP hD hS 4 1 rfl rfl (by omega) (by decide) dX5_drop_44 (fun H locs hP hD hS => ?_)
              have hP : va_P G vwCl (wm a cB cI cZ ag (nI g) ow ru (upd f2 (72 * x + 9 * y + (i + 1)) 0) kd tb md lv d nb bg (nI t0) (nI q) lr lb lh) H := hP
              have hD : va_D A (wm a cB cI cZ ag (nI g) ow ru (upd f2 (72 * x + 9 * y + (i + 1)) 0) kd tb md lv d nb bg (nI t0) (nI q) lr lb lh) := hD
              refine lv_iinc (v := nI ((i + 1) + 1)) (lv' := [(3, .int (nI ((i + 1) + 1))), (2, .int (nI x)), (0, .ref (a 0)), (1, .int (nI y))]) hx hb dX5_drop_45 hl (k := 0) rfl (fw_inc _) (by decide) rfl (fun ls hl => ?_)
              refine lv_goto (tgt := 22) hx hb dX5_drop_48 (by decide) ?_
              exact ih_22 (i + 1) (upd f2 (72 * x + 9 * y + (i + 1)) 0) _ _ _ (by omega) (by omega) (by rw [fw_itS, ← hg]; rfl) hP hD hS (lv_sub hl [0, 1, 2, 3] rfl)
        exact lp_22 _ 0 f _ _ _ (Nat.lt_succ_self _) (by omega) (rfl) hP hD hS (lv_sub hl [0, 1, 2, 3] rfl)
  exact lp_14 _ 0 hd dr _ _ _ (Nat.lt_succ_self _) (by omega) (rfl) hP hD hS (lv_sub hl [0, 1, 2] rfl)

abbrev rmX5_holds : Room := { frames := 2, cells := 0, slots := 0, locals := 42 }
set_option maxHeartbeats 4000000 in
set_option maxRecDepth 100000 in
theorem m_holds_no (l : Launch) (G : va_G) (cB cI cZ : ClassId) (tc : Nat) (a : Nat → Nat) (ag ow ru hd kd tb md lv dr nb bg lr lb lh : Nat → Int32) (g : Nat) (t0 : Nat) (q : Nat) (x1 : Int32) (x2 : Int32) (x3 : Int32) (h : (px_isS x1 && px_isT x2 && px_isM x3) = false) : KC l yX5_holds wsX5_holds rmX5_holds G [(cB, .byte), (cI, .int), (cZ, .boolean)] tc [.ref (a 0), .int x1, .int x2, .int x3] (wm a cB cI cZ ag (nI g) ow ru hd kd tb md lv dr nb bg (nI t0) (nI q) lr lb lh) (fun v w' => v = some (.int (-1)) ∧ w' = (wm a cB cI cZ ag (nI g) ow ru hd kd tb md lv dr nb bg (nI t0) (nI q) lr lb lh)) := by
  refine KC.of (cc := cX5_holds) (maxL := 4) (ret := some .int) (by decide) rfl (Nat.le_of_ble_eq_true rfl) ?_
  intro p e s m below meth c args A Q ls hx hb hml hown hts hK hZ hA hP hD hS hl hri hrv
  have hown : s.vm.findClass RX5 = some m.cls := hown
  have hl : lv_has ls 4 [(0, .ref (a 0)), (1, .int x1), (2, .int x2), (3, .int x3)] := hl
  have fl_20 := hts (.fieldLink RX5 20 "LockDeskModel" "held" "[I") (by decide +kernel)
  have hin5 : ∀ w ∈ wsX50, w ∈ wsX5_holds := by decide +kernel
  refine lv_iload_n hx hb dX5_holds_0 rfl (lv_at hl 1 rfl) ?_
  refine kS (As := [.int x1]) (rest := []) ⟨hx, hb, hml, hown, hts⟩ (c_X5_isSession l G [(cB, .byte), (cI, .int), (cZ, .boolean)] tc (wm a cB cI cZ ag (nI g) ow ru hd kd tb md lv dr nb bg (nI t0) (nI q) lr lb lh) x1) (va_cwS 1 hts gX5_holds_X5_isSession rfl rfl rfl (by decide +kernel) ⟨by decide, by decide⟩) hK hZ hA hP hD hS rfl hl.1 rfl (Nat.le_of_ble_eq_true rfl) dX5_holds_1 ⟨Nat.zero_le _, Nat.zero_le _⟩ (fun v w' H locs hp hP hD hS => ?_)
  obtain ⟨rfl, rfl⟩ := hp
  have hP : va_P G vwCl (wm a cB cI cZ ag (nI g) ow ru hd kd tb md lv dr nb bg (nI t0) (nI q) lr lb lh) H := hP
  have hD : va_D A (wm a cB cI cZ ag (nI g) ow ru hd kd tb md lv dr nb bg (nI t0) (nI q) lr lb lh) := hD
  refine W.eq (g2 := F0 m 4 ls [.int (fw_b (px_isS x1))]) rfl ?_
  refine lv_if_eq (tgt := 48) hx hb dX5_holds_4 (by decide) (fun c_4 => ?_) (fun c_4 => ?_)
  · have c_4 := fw_b0.mp c_4
    refine lv_iconst (v := (-1)) hx hb dX5_holds_48 (by decide) ?_
    exact hri _ rfl (-1) _ _ _ _ _ (rfl) (⟨rfl, rfl⟩) hP hD hS dX5_holds_49
  · have c_4 := fw_b1.mp c_4
    refine lv_iload_n hx hb dX5_holds_7 rfl (lv_at hl 2 rfl) ?_
    refine lv_iconst (v := 0) hx hb dX5_holds_8 (by decide) ?_
    refine lv_bipush (v := 7) hx hb dX5_holds_9 (by decide) ?_
    refine kS (As := [.int x2, .int 0, .int 7]) (rest := []) ⟨hx, hb, hml, hown, hts⟩ (c_X5_in l G [(cB, .byte), (cI, .int), (cZ, .boolean)] tc (wm a cB cI cZ ag (nI g) ow ru hd kd tb md lv dr nb bg (nI t0) (nI q) lr lb lh) x2 0 7) (va_cwS 3 hts gX5_holds_X5_in rfl rfl rfl (by decide +kernel) ⟨by decide, by decide⟩) hK hZ hA hP hD hS rfl hl.1 rfl (Nat.le_of_ble_eq_true rfl) dX5_holds_11 ⟨Nat.zero_le _, Nat.zero_le _⟩ (fun v w' H locs hp hP hD hS => ?_)
    obtain ⟨rfl, rfl⟩ := hp
    rw [mx_inT]
    have hP : va_P G vwCl (wm a cB cI cZ ag (nI g) ow ru hd kd tb md lv dr nb bg (nI t0) (nI q) lr lb lh) H := hP
    have hD : va_D A (wm a cB cI cZ ag (nI g) ow ru hd kd tb md lv dr nb bg (nI t0) (nI q) lr lb lh) := hD
    refine W.eq (g2 := F0 m 14 ls [.int (fw_b (px_isT x2))]) rfl ?_
    refine lv_if_eq (tgt := 48) hx hb dX5_holds_14 (by decide) (fun c_14 => ?_) (fun c_14 => ?_)
    · have c_14 := fw_b0.mp c_14
      refine lv_iconst (v := (-1)) hx hb dX5_holds_48 (by decide) ?_
      exact hri _ rfl (-1) _ _ _ _ _ (rfl) (⟨rfl, rfl⟩) hP hD hS dX5_holds_49
    · have c_14 := fw_b1.mp c_14
      refine lv_iload_n hx hb dX5_holds_17 rfl (lv_at hl 3 rfl) ?_
      refine lv_iconst (v := 1) hx hb dX5_holds_18 (by decide) ?_
      refine lv_bipush (v := 8) hx hb dX5_holds_19 (by decide) ?_
      refine kS (As := [.int x3, .int 1, .int 8]) (rest := []) ⟨hx, hb, hml, hown, hts⟩ (c_X5_in l G [(cB, .byte), (cI, .int), (cZ, .boolean)] tc (wm a cB cI cZ ag (nI g) ow ru hd kd tb md lv dr nb bg (nI t0) (nI q) lr lb lh) x3 1 8) (va_cwS 3 hts gX5_holds_X5_in rfl rfl rfl (by decide +kernel) ⟨by decide, by decide⟩) hK hZ hA hP hD hS rfl hl.1 rfl (Nat.le_of_ble_eq_true rfl) dX5_holds_21 ⟨Nat.zero_le _, Nat.zero_le _⟩ (fun v w' H locs hp hP hD hS => ?_)
      obtain ⟨rfl, rfl⟩ := hp
      have hP : va_P G vwCl (wm a cB cI cZ ag (nI g) ow ru hd kd tb md lv dr nb bg (nI t0) (nI q) lr lb lh) H := hP
      have hD : va_D A (wm a cB cI cZ ag (nI g) ow ru hd kd tb md lv dr nb bg (nI t0) (nI q) lr lb lh) := hD
      refine W.eq (g2 := F0 m 24 ls [.int (fw_b (px_isM x3))]) rfl ?_
      refine lv_if_eq (tgt := 48) hx hb dX5_holds_24 (by decide) (fun c_24 => ?_) (fun c_24 => False.elim (by have c_24 := fw_b1.mp c_24; simp [c_4, c_14, c_24] at h))
      have c_24 := fw_b0.mp c_24
      refine lv_iconst (v := (-1)) hx hb dX5_holds_48 (by decide) ?_
      exact hri _ rfl (-1) _ _ _ _ _ (rfl) (⟨rfl, rfl⟩) hP hD hS dX5_holds_49

set_option maxHeartbeats 4000000 in
set_option maxRecDepth 100000 in
theorem m_holds_ok (l : Launch) (G : va_G) (cB cI cZ : ClassId) (tc : Nat) (a : Nat → Nat) (ag ow ru hd kd tb md lv dr nb bg lr lb lh : Nat → Int32) (g : Nat) (t0 : Nat) (q : Nat) (x : Nat) (y : Nat) (k : Nat) (hx6 : x < 6) (hy8 : y < 8) (hk8 : k < 8) : KC l yX5_holds wsX5_holds rmX5_holds G [(cB, .byte), (cI, .int), (cZ, .boolean)] tc [.ref (a 0), .int (nI x), .int (nI y), .int (nI (k + 1))] (wm a cB cI cZ ag (nI g) ow ru hd kd tb md lv dr nb bg (nI t0) (nI q) lr lb lh) (fun v w' => v = some (.int (hd (72 * x + 9 * y + (k + 1)) - 1)) ∧ w' = (wm a cB cI cZ ag (nI g) ow ru hd kd tb md lv dr nb bg (nI t0) (nI q) lr lb lh)) := by
  refine KC.of (cc := cX5_holds) (maxL := 4) (ret := some .int) (by decide) rfl (Nat.le_of_ble_eq_true rfl) ?_
  intro p e s m below meth c args A Q ls hx hb hml hown hts hK hZ hA hP hD hS hl hri hrv
  have hown : s.vm.findClass RX5 = some m.cls := hown
  have hl : lv_has ls 4 [(0, .ref (a 0)), (1, .int (nI x)), (2, .int (nI y)), (3, .int (nI (k + 1)))] := hl
  have fl_20 := hts (.fieldLink RX5 20 "LockDeskModel" "held" "[I") (by decide +kernel)
  have hin5 : ∀ w ∈ wsX50, w ∈ wsX5_holds := by decide +kernel
  refine lv_iload_n hx hb dX5_holds_0 rfl (lv_at hl 1 rfl) ?_
  refine kS (As := [.int (nI x)]) (rest := []) ⟨hx, hb, hml, hown, hts⟩ (c_X5_isSession l G [(cB, .byte), (cI, .int), (cZ, .boolean)] tc (wm a cB cI cZ ag (nI g) ow ru hd kd tb md lv dr nb bg (nI t0) (nI q) lr lb lh) (nI x)) (va_cwS 1 hts gX5_holds_X5_isSession rfl rfl rfl (by decide +kernel) ⟨by decide, by decide⟩) hK hZ hA hP hD hS rfl hl.1 rfl (Nat.le_of_ble_eq_true rfl) dX5_holds_1 ⟨Nat.zero_le _, Nat.zero_le _⟩ (fun v w' H locs hp hP hD hS => ?_)
  obtain ⟨rfl, rfl⟩ := hp
  have hP : va_P G vwCl (wm a cB cI cZ ag (nI g) ow ru hd kd tb md lv dr nb bg (nI t0) (nI q) lr lb lh) H := hP
  have hD : va_D A (wm a cB cI cZ ag (nI g) ow ru hd kd tb md lv dr nb bg (nI t0) (nI q) lr lb lh) := hD
  refine W.eq (g2 := F0 m 4 ls [.int (fw_b (px_isS (nI x)))]) rfl ?_
  refine lv_if_eq (tgt := 48) hx hb dX5_holds_4 (by decide) (fun c_4 => False.elim (by rw [px_isS_nI x hx6] at c_4; exact absurd c_4 (by decide))) (fun c_4 => ?_)
  have c_4 := fw_b1.mp c_4
  refine lv_iload_n hx hb dX5_holds_7 rfl (lv_at hl 2 rfl) ?_
  refine lv_iconst (v := 0) hx hb dX5_holds_8 (by decide) ?_
  refine lv_bipush (v := 7) hx hb dX5_holds_9 (by decide) ?_
  refine kS (As := [.int (nI y), .int 0, .int 7]) (rest := []) ⟨hx, hb, hml, hown, hts⟩ (c_X5_in l G [(cB, .byte), (cI, .int), (cZ, .boolean)] tc (wm a cB cI cZ ag (nI g) ow ru hd kd tb md lv dr nb bg (nI t0) (nI q) lr lb lh) (nI y) 0 7) (va_cwS 3 hts gX5_holds_X5_in rfl rfl rfl (by decide +kernel) ⟨by decide, by decide⟩) hK hZ hA hP hD hS rfl hl.1 rfl (Nat.le_of_ble_eq_true rfl) dX5_holds_11 ⟨Nat.zero_le _, Nat.zero_le _⟩ (fun v w' H locs hp hP hD hS => ?_)
  obtain ⟨rfl, rfl⟩ := hp
  rw [mx_inT]
  have hP : va_P G vwCl (wm a cB cI cZ ag (nI g) ow ru hd kd tb md lv dr nb bg (nI t0) (nI q) lr lb lh) H := hP
  have hD : va_D A (wm a cB cI cZ ag (nI g) ow ru hd kd tb md lv dr nb bg (nI t0) (nI q) lr lb lh) := hD
  refine W.eq (g2 := F0 m 14 ls [.int (fw_b (px_isT (nI y)))]) rfl ?_
  refine lv_if_eq (tgt := 48) hx hb dX5_holds_14 (by decide) (fun c_14 => False.elim (by rw [px_isT_nI y hy8] at c_14; exact absurd c_14 (by decide))) (fun c_14 => ?_)
  have c_14 := fw_b1.mp c_14
  refine lv_iload_n hx hb dX5_holds_17 rfl (lv_at hl 3 rfl) ?_
  refine lv_iconst (v := 1) hx hb dX5_holds_18 (by decide) ?_
  refine lv_bipush (v := 8) hx hb dX5_holds_19 (by decide) ?_
  refine kS (As := [.int (nI (k + 1)), .int 1, .int 8]) (rest := []) ⟨hx, hb, hml, hown, hts⟩ (c_X5_in l G [(cB, .byte), (cI, .int), (cZ, .boolean)] tc (wm a cB cI cZ ag (nI g) ow ru hd kd tb md lv dr nb bg (nI t0) (nI q) lr lb lh) (nI (k + 1)) 1 8) (va_cwS 3 hts gX5_holds_X5_in rfl rfl rfl (by decide +kernel) ⟨by decide, by decide⟩) hK hZ hA hP hD hS rfl hl.1 rfl (Nat.le_of_ble_eq_true rfl) dX5_holds_21 ⟨Nat.zero_le _, Nat.zero_le _⟩ (fun v w' H locs hp hP hD hS => ?_)
  obtain ⟨rfl, rfl⟩ := hp
  have hP : va_P G vwCl (wm a cB cI cZ ag (nI g) ow ru hd kd tb md lv dr nb bg (nI t0) (nI q) lr lb lh) H := hP
  have hD : va_D A (wm a cB cI cZ ag (nI g) ow ru hd kd tb md lv dr nb bg (nI t0) (nI q) lr lb lh) := hD
  refine W.eq (g2 := F0 m 24 ls [.int (fw_b (px_isM (nI (k + 1))))]) rfl ?_
  refine lv_if_eq (tgt := 48) hx hb dX5_holds_24 (by decide) (fun c_24 => False.elim (by rw [px_isM_nI k hk8] at c_24; exact absurd c_24 (by decide))) (fun c_24 => ?_)
  have c_24 := fw_b1.mp c_24
  refine lv_aload_n hx hb dX5_holds_27 rfl (lv_at hl 0 rfl) ?_
  refine va_get (D := G) (ci := 5) (v := .ref (a 4)) (C := RX5) (T := TX5) (N := 17) hx hb hts hin5 hown hK hP 0 rfl rfl 4 (by decide) fl_20 (fun _ h9 => h9) rfl dX5_holds_28 ?_
  refine lv_bipush (v := 72) hx hb dX5_holds_31 (by decide) ?_
  refine lv_iload_n hx hb dX5_holds_33 rfl (lv_at hl 1 rfl) ?_
  refine lv_imul hx hb dX5_holds_34 ?_
  refine lv_bipush (v := 9) hx hb dX5_holds_35 (by decide) ?_
  refine lv_iload_n hx hb dX5_holds_37 rfl (lv_at hl 2 rfl) ?_
  refine lv_imul hx hb dX5_holds_38 ?_
  refine lv_iadd hx hb dX5_holds_39 ?_
  refine lv_iload_n hx hb dX5_holds_40 rfl (lv_at hl 3 rfl) ?_
  refine lv_iadd hx hb dX5_holds_41 ?_
  rw [mx_ix]
  refine fw_iald (j := (72 * x + 9 * y + (k + 1))) (f := hd) hx hb hK hP 4 1 rfl rfl (by omega) (by decide) dX5_holds_42 ?_
  refine lv_iconst (v := 1) hx hb dX5_holds_43 (by decide) ?_
  refine lv_isub hx hb dX5_holds_44 ?_
  refine lv_goto (tgt := 49) hx hb dX5_holds_45 (by decide) ?_
  exact hri _ rfl ((hd (72 * x + 9 * y + (k + 1))) - 1) _ _ _ _ _ (rfl) (⟨rfl, rfl⟩) hP hD hS dX5_holds_49

abbrev rmX5_on : Room := { frames := 4, cells := 0, slots := 0, locals := 95 }
set_option maxHeartbeats 4000000 in
set_option maxRecDepth 100000 in
theorem m_on_no (l : Launch) (G : va_G) (cB cI cZ : ClassId) (tc : Nat) (a : Nat → Nat) (ag ow ru hd kd tb md lv dr nb bg lr lb lh : Nat → Int32) (g : Nat) (t0 : Nat) (q : Nat) (x1 : Int32) (h : px_isS x1 = false) : KC l yX5_on wsX5_on rmX5_on G [(cB, .byte), (cI, .int), (cZ, .boolean)] tc [.ref (a 0), .int x1] (wm a cB cI cZ ag (nI g) ow ru hd kd tb md lv dr nb bg (nI t0) (nI q) lr lb lh) (fun v w' => v = some (.int (0)) ∧ w' = (wm a cB cI cZ ag (nI g) ow ru hd kd tb md lv dr nb bg (nI t0) (nI q) lr lb lh)) := by
  refine KC.of (cc := cX5_on) (maxL := 2) (ret := some .int) (by decide) rfl (Nat.le_of_ble_eq_true rfl) ?_
  intro p e s m below meth c args A Q ls hx hb hml hown hts hK hZ hA hP hD hS hl hri hrv
  have hown : s.vm.findClass RX5 = some m.cls := hown
  have hl : lv_has ls 2 [(0, .ref (a 0)), (1, .int x1)] := hl
  refine lv_iload_n hx hb dX5_on_0 rfl (lv_at hl 1 rfl) ?_
  refine kS (As := [.int x1]) (rest := []) ⟨hx, hb, hml, hown, hts⟩ (c_X5_isSession l G [(cB, .byte), (cI, .int), (cZ, .boolean)] tc (wm a cB cI cZ ag (nI g) ow ru hd kd tb md lv dr nb bg (nI t0) (nI q) lr lb lh) x1) (va_cwS 1 hts gX5_on_X5_isSession rfl rfl rfl (by decide +kernel) ⟨by decide, by decide⟩) hK hZ hA hP hD hS rfl hl.1 rfl (Nat.le_of_ble_eq_true rfl) dX5_on_1 ⟨Nat.zero_le _, Nat.zero_le _⟩ (fun v w' H locs hp hP hD hS => ?_)
  obtain ⟨rfl, rfl⟩ := hp
  have hP : va_P G vwCl (wm a cB cI cZ ag (nI g) ow ru hd kd tb md lv dr nb bg (nI t0) (nI q) lr lb lh) H := hP
  have hD : va_D A (wm a cB cI cZ ag (nI g) ow ru hd kd tb md lv dr nb bg (nI t0) (nI q) lr lb lh) := hD
  refine W.eq (g2 := F0 m 4 ls [.int (fw_b (px_isS x1))]) rfl ?_
  refine lv_if_eq (tgt := 15) hx hb dX5_on_4 (by decide) (fun c_4 => ?_) (fun c_4 => False.elim (by rw [h] at c_4; exact c_4 rfl))
  have c_4 := fw_b0.mp c_4
  refine lv_iconst (v := 0) hx hb dX5_on_15 (by decide) ?_
  exact hri _ rfl 0 _ _ _ _ _ (rfl) (⟨rfl, rfl⟩) hP hD hS dX5_on_16

set_option maxHeartbeats 4000000 in
set_option maxRecDepth 100000 in
theorem m_on_ok (l : Launch) (G : va_G) (cB cI cZ : ClassId) (tc : Nat) (a : Nat → Nat) (ag ow ru hd kd tb md lv dr nb bg lr lb lh : Nat → Int32) (g : Nat) (t0 : Nat) (q : Nat) (x : Nat) (hx6 : x < 6) (hI : mx_I g t0 ag ow tb md lv dr nb bg) : KC l yX5_on wsX5_on rmX5_on G [(cB, .byte), (cI, .int), (cZ, .boolean)] tc [.ref (a 0), .int (nI x)] (wm a cB cI cZ ag (nI g) ow ru hd kd tb md lv dr nb bg (nI t0) (nI q) lr lb lh) (fun v w' => v = some (.int (mx_wo ow ru hd kd tb md dr nb bg x)) ∧ w' = (wm a cB cI cZ ag (nI g) ow ru hd kd tb md lv dr nb bg (nI t0) (nI q) lr lb lh)) := by
  refine KC.of (cc := cX5_on) (maxL := 2) (ret := some .int) (by decide) rfl (Nat.le_of_ble_eq_true rfl) ?_
  intro p e s m below meth c args A Q ls hx hb hml hown hts hK hZ hA hP hD hS hl hri hrv
  have hown : s.vm.findClass RX5 = some m.cls := hown
  have hl : lv_has ls 2 [(0, .ref (a 0)), (1, .int (nI x))] := hl
  refine lv_iload_n hx hb dX5_on_0 rfl (lv_at hl 1 rfl) ?_
  refine kS (As := [.int (nI x)]) (rest := []) ⟨hx, hb, hml, hown, hts⟩ (c_X5_isSession l G [(cB, .byte), (cI, .int), (cZ, .boolean)] tc (wm a cB cI cZ ag (nI g) ow ru hd kd tb md lv dr nb bg (nI t0) (nI q) lr lb lh) (nI x)) (va_cwS 1 hts gX5_on_X5_isSession rfl rfl rfl (by decide +kernel) ⟨by decide, by decide⟩) hK hZ hA hP hD hS rfl hl.1 rfl (Nat.le_of_ble_eq_true rfl) dX5_on_1 ⟨Nat.zero_le _, Nat.zero_le _⟩ (fun v w' H locs hp hP hD hS => ?_)
  obtain ⟨rfl, rfl⟩ := hp
  have hP : va_P G vwCl (wm a cB cI cZ ag (nI g) ow ru hd kd tb md lv dr nb bg (nI t0) (nI q) lr lb lh) H := hP
  have hD : va_D A (wm a cB cI cZ ag (nI g) ow ru hd kd tb md lv dr nb bg (nI t0) (nI q) lr lb lh) := hD
  refine W.eq (g2 := F0 m 4 ls [.int (fw_b (px_isS (nI x)))]) rfl ?_
  refine lv_if_eq (tgt := 15) hx hb dX5_on_4 (by decide) (fun c_4 => False.elim (by rw [px_isS_nI x hx6] at c_4; exact absurd c_4 (by decide))) (fun c_4 => ?_)
  have c_4 := fw_b1.mp c_4
  refine lv_aload_n hx hb dX5_on_7 rfl (lv_at hl 0 rfl) ?_
  refine lv_iload_n hx hb dX5_on_8 rfl (lv_at hl 1 rfl) ?_
  refine kV (As := [.int (nI x)]) (rest := []) ⟨hx, hb, hml, hown, hts⟩ (c_X5_waitsOn l G cB cI cZ tc a ag ow ru hd kd tb md lv dr nb bg lr lb lh g t0 q x hx6 hI) (cwV 1 hts gX5_on_X5_waitsOn rfl rfl rfl (by decide +kernel) ⟨by decide, by decide⟩) hK hZ hA hP hD hS 0 5 rfl rfl rfl hl.1 rfl (Nat.le_of_ble_eq_true rfl) dX5_on_9 ⟨Nat.zero_le _, Nat.zero_le _⟩ (fun v w' H locs hp hP hD hS => ?_)
  obtain ⟨rfl, rfl⟩ := hp
  have hP : va_P G vwCl (wm a cB cI cZ ag (nI g) ow ru hd kd tb md lv dr nb bg (nI t0) (nI q) lr lb lh) H := hP
  have hD : va_D A (wm a cB cI cZ ag (nI g) ow ru hd kd tb md lv dr nb bg (nI t0) (nI q) lr lb lh) := hD
  refine W.eq (g2 := F0 m 12 ls [.int (mx_wo ow ru hd kd tb md dr nb bg x)]) rfl ?_
  refine lv_goto (tgt := 16) hx hb dX5_on_12 (by decide) ?_
  exact hri _ rfl (mx_wo ow ru hd kd tb md dr nb bg x) _ _ _ _ _ (rfl) (⟨rfl, rfl⟩) hP hD hS dX5_on_16

abbrev rmX5_wish : Room := { frames := 2, cells := 0, slots := 0, locals := 42 }
set_option maxHeartbeats 4000000 in
set_option maxRecDepth 100000 in
theorem m_wish_no (l : Launch) (G : va_G) (cB cI cZ : ClassId) (tc : Nat) (a : Nat → Nat) (ag ow ru hd kd tb md lv dr nb bg lr lb lh : Nat → Int32) (g : Nat) (t0 : Nat) (q : Nat) (x1 : Int32) (h : px_isS x1 = false) : KC l yX5_wish wsX5_wish rmX5_wish G [(cB, .byte), (cI, .int), (cZ, .boolean)] tc [.ref (a 0), .int x1] (wm a cB cI cZ ag (nI g) ow ru hd kd tb md lv dr nb bg (nI t0) (nI q) lr lb lh) (fun v w' => v = some (.int (-1)) ∧ w' = (wm a cB cI cZ ag (nI g) ow ru hd kd tb md lv dr nb bg (nI t0) (nI q) lr lb lh)) := by
  refine KC.of (cc := cX5_wish) (maxL := 2) (ret := some .int) (by decide) rfl (Nat.le_of_ble_eq_true rfl) ?_
  intro p e s m below meth c args A Q ls hx hb hml hown hts hK hZ hA hP hD hS hl hri hrv
  have hown : s.vm.findClass RX5 = some m.cls := hown
  have hl : lv_has ls 2 [(0, .ref (a 0)), (1, .int x1)] := hl
  have fl_23 := hts (.fieldLink RX5 23 "LockDeskModel" "kind" "[I") (by decide +kernel)
  have fl_26 := hts (.fieldLink RX5 26 "LockDeskModel" "table" "[I") (by decide +kernel)
  have fl_29 := hts (.fieldLink RX5 29 "LockDeskModel" "mode" "[I") (by decide +kernel)
  have fl_35 := hts (.fieldLink RX5 35 "LockDeskModel" "dropped" "[Z") (by decide +kernel)
  have fl_38 := hts (.fieldLink RX5 38 "LockDeskModel" "number" "[I") (by decide +kernel)
  have hin5 : ∀ w ∈ wsX50, w ∈ wsX5_wish := by decide +kernel
  refine lv_iload_n hx hb dX5_wish_0 rfl (lv_at hl 1 rfl) ?_
  refine kS (As := [.int x1]) (rest := []) ⟨hx, hb, hml, hown, hts⟩ (c_X5_isSession l G [(cB, .byte), (cI, .int), (cZ, .boolean)] tc (wm a cB cI cZ ag (nI g) ow ru hd kd tb md lv dr nb bg (nI t0) (nI q) lr lb lh) x1) (va_cwS 1 hts gX5_wish_X5_isSession rfl rfl rfl (by decide +kernel) ⟨by decide, by decide⟩) hK hZ hA hP hD hS rfl hl.1 rfl (Nat.le_of_ble_eq_true rfl) dX5_wish_1 ⟨Nat.zero_le _, Nat.zero_le _⟩ (fun v w' H locs hp hP hD hS => ?_)
  obtain ⟨rfl, rfl⟩ := hp
  have hP : va_P G vwCl (wm a cB cI cZ ag (nI g) ow ru hd kd tb md lv dr nb bg (nI t0) (nI q) lr lb lh) H := hP
  have hD : va_D A (wm a cB cI cZ ag (nI g) ow ru hd kd tb md lv dr nb bg (nI t0) (nI q) lr lb lh) := hD
  refine W.eq (g2 := F0 m 4 ls [.int (fw_b (px_isS x1))]) rfl ?_
  refine lv_if_ne (tgt := 9) hx hb dX5_wish_4 (by decide) (fun c_4 => False.elim (by rw [h] at c_4; exact c_4 rfl)) (fun c_4 => ?_)
  have c_4 := fw_b0.mp c_4
  refine lv_iconst (v := (-1)) hx hb dX5_wish_7 (by decide) ?_
  exact hri _ rfl (-1) _ _ _ _ _ (rfl) (⟨rfl, rfl⟩) hP hD hS dX5_wish_8

set_option maxHeartbeats 4000000 in
set_option maxRecDepth 100000 in
theorem m_wish_ok (l : Launch) (G : va_G) (cB cI cZ : ClassId) (tc : Nat) (a : Nat → Nat) (ag ow ru hd kd tb md lv dr nb bg lr lb lh : Nat → Int32) (g : Nat) (t0 : Nat) (q : Nat) (x : Nat) (hx6 : x < 6)  : KC l yX5_wish wsX5_wish rmX5_wish G [(cB, .byte), (cI, .int), (cZ, .boolean)] tc [.ref (a 0), .int (nI x)] (wm a cB cI cZ ag (nI g) ow ru hd kd tb md lv dr nb bg (nI t0) (nI q) lr lb lh) (fun v w' => v = some (.int (if kd x = 2 then 10000 + nb x else if kd x = 0 then 0 else 10 * tb x + md x + (if dr x = 0 then 0 else 1000))) ∧ w' = (wm a cB cI cZ ag (nI g) ow ru hd kd tb md lv dr nb bg (nI t0) (nI q) lr lb lh)) := by
  refine KC.of (cc := cX5_wish) (maxL := 2) (ret := some .int) (by decide) rfl (Nat.le_of_ble_eq_true rfl) ?_
  intro p e s m below meth c args A Q ls hx hb hml hown hts hK hZ hA hP hD hS hl hri hrv
  have hown : s.vm.findClass RX5 = some m.cls := hown
  have hl : lv_has ls 2 [(0, .ref (a 0)), (1, .int (nI x))] := hl
  have fl_23 := hts (.fieldLink RX5 23 "LockDeskModel" "kind" "[I") (by decide +kernel)
  have fl_26 := hts (.fieldLink RX5 26 "LockDeskModel" "table" "[I") (by decide +kernel)
  have fl_29 := hts (.fieldLink RX5 29 "LockDeskModel" "mode" "[I") (by decide +kernel)
  have fl_35 := hts (.fieldLink RX5 35 "LockDeskModel" "dropped" "[Z") (by decide +kernel)
  have fl_38 := hts (.fieldLink RX5 38 "LockDeskModel" "number" "[I") (by decide +kernel)
  have hin5 : ∀ w ∈ wsX50, w ∈ wsX5_wish := by decide +kernel
  refine lv_iload_n hx hb dX5_wish_0 rfl (lv_at hl 1 rfl) ?_
  refine kS (As := [.int (nI x)]) (rest := []) ⟨hx, hb, hml, hown, hts⟩ (c_X5_isSession l G [(cB, .byte), (cI, .int), (cZ, .boolean)] tc (wm a cB cI cZ ag (nI g) ow ru hd kd tb md lv dr nb bg (nI t0) (nI q) lr lb lh) (nI x)) (va_cwS 1 hts gX5_wish_X5_isSession rfl rfl rfl (by decide +kernel) ⟨by decide, by decide⟩) hK hZ hA hP hD hS rfl hl.1 rfl (Nat.le_of_ble_eq_true rfl) dX5_wish_1 ⟨Nat.zero_le _, Nat.zero_le _⟩ (fun v w' H locs hp hP hD hS => ?_)
  obtain ⟨rfl, rfl⟩ := hp
  have hP : va_P G vwCl (wm a cB cI cZ ag (nI g) ow ru hd kd tb md lv dr nb bg (nI t0) (nI q) lr lb lh) H := hP
  have hD : va_D A (wm a cB cI cZ ag (nI g) ow ru hd kd tb md lv dr nb bg (nI t0) (nI q) lr lb lh) := hD
  refine W.eq (g2 := F0 m 4 ls [.int (fw_b (px_isS (nI x)))]) rfl ?_
  refine lv_if_ne (tgt := 9) hx hb dX5_wish_4 (by decide) (fun c_4 => ?_) (fun c_4 => False.elim (by rw [px_isS_nI x hx6] at c_4; exact absurd c_4 (by decide)))
  have c_4 := fw_b1.mp c_4
  refine lv_aload_n hx hb dX5_wish_9 rfl (lv_at hl 0 rfl) ?_
  refine va_get (D := G) (ci := 5) (v := .ref (a 5)) (C := RX5) (T := TX5) (N := 17) hx hb hts hin5 hown hK hP 0 rfl rfl 5 (by decide) fl_23 (fun _ h9 => h9) rfl dX5_wish_10 ?_
  refine lv_iload_n hx hb dX5_wish_13 rfl (lv_at hl 1 rfl) ?_
  refine fw_iald (j := x) (f := kd) hx hb hK hP 5 1 rfl rfl (by omega) (by decide) dX5_wish_14 ?_
  refine lv_iconst (v := 2) hx hb dX5_wish_15 (by decide) ?_
  refine lv_icmp_ne (tgt := 30) hx hb dX5_wish_16 (by decide) (fun c_16 => ?_) (fun c_16 => ?_)
  · refine lv_aload_n hx hb dX5_wish_30 rfl (lv_at hl 0 rfl) ?_
    refine va_get (D := G) (ci := 5) (v := .ref (a 5)) (C := RX5) (T := TX5) (N := 17) hx hb hts hin5 hown hK hP 0 rfl rfl 5 (by decide) fl_23 (fun _ h9 => h9) rfl dX5_wish_31 ?_
    refine lv_iload_n hx hb dX5_wish_34 rfl (lv_at hl 1 rfl) ?_
    refine fw_iald (j := x) (f := kd) hx hb hK hP 5 1 rfl rfl (by omega) (by decide) dX5_wish_35 ?_
    refine lv_if_ne (tgt := 43) hx hb dX5_wish_36 (by decide) (fun c_36 => ?_) (fun c_36 => ?_)
    · refine lv_bipush (v := 10) hx hb dX5_wish_43 (by decide) ?_
      refine lv_aload_n hx hb dX5_wish_45 rfl (lv_at hl 0 rfl) ?_
      refine va_get (D := G) (ci := 5) (v := .ref (a 6)) (C := RX5) (T := TX5) (N := 17) hx hb hts hin5 hown hK hP 0 rfl rfl 6 (by decide) fl_26 (fun _ h9 => h9) rfl dX5_wish_46 ?_
      refine lv_iload_n hx hb dX5_wish_49 rfl (lv_at hl 1 rfl) ?_
      refine fw_iald (j := x) (f := tb) hx hb hK hP 6 1 rfl rfl (by omega) (by decide) dX5_wish_50 ?_
      refine lv_imul hx hb dX5_wish_51 ?_
      refine lv_aload_n hx hb dX5_wish_52 rfl (lv_at hl 0 rfl) ?_
      refine va_get (D := G) (ci := 5) (v := .ref (a 7)) (C := RX5) (T := TX5) (N := 17) hx hb hts hin5 hown hK hP 0 rfl rfl 7 (by decide) fl_29 (fun _ h9 => h9) rfl dX5_wish_53 ?_
      refine lv_iload_n hx hb dX5_wish_56 rfl (lv_at hl 1 rfl) ?_
      refine fw_iald (j := x) (f := md) hx hb hK hP 7 1 rfl rfl (by omega) (by decide) dX5_wish_57 ?_
      refine lv_iadd hx hb dX5_wish_58 ?_
      refine lv_aload_n hx hb dX5_wish_59 rfl (lv_at hl 0 rfl) ?_
      refine va_get (D := G) (ci := 5) (v := .ref (a 9)) (C := RX5) (T := TX5) (N := 17) hx hb hts hin5 hown hK hP 0 rfl rfl 9 (by decide) fl_35 (fun _ h9 => h9) rfl dX5_wish_60 ?_
      refine lv_iload_n hx hb dX5_wish_63 rfl (lv_at hl 1 rfl) ?_
      refine fw_zald (j := x) (f := dr) hx hb hK hP 9 2 rfl rfl (by omega) (by decide) dX5_wish_64 ?_
      refine lv_if_eq (tgt := 74) hx hb dX5_wish_65 (by decide) (fun c_65 => ?_) (fun c_65 => ?_)
      · refine lv_iconst (v := 0) hx hb dX5_wish_74 (by decide) ?_
        refine lv_iadd hx hb dX5_wish_75 ?_
        exact hri _ rfl (((10 * (tb x)) + (md x)) + 0) _ _ _ _ _ (rfl) (⟨by rw [if_neg c_16, if_neg c_36, if_pos c_65], rfl⟩) hP hD hS dX5_wish_76
      · refine lv_sipush (v := 1000) hx hb dX5_wish_68 (by decide) ?_
        refine lv_goto (tgt := 75) hx hb dX5_wish_71 (by decide) ?_
        refine lv_iadd hx hb dX5_wish_75 ?_
        exact hri _ rfl (((10 * (tb x)) + (md x)) + 1000) _ _ _ _ _ (rfl) (⟨by rw [if_neg c_16, if_neg c_36, if_neg c_65], rfl⟩) hP hD hS dX5_wish_76
    · refine lv_iconst (v := 0) hx hb dX5_wish_39 (by decide) ?_
      refine lv_goto (tgt := 76) hx hb dX5_wish_40 (by decide) ?_
      exact hri _ rfl 0 _ _ _ _ _ (rfl) (⟨by rw [if_neg c_16, if_pos c_36], rfl⟩) hP hD hS dX5_wish_76
  · refine lv_sipush (v := 10000) hx hb dX5_wish_19 (by decide) ?_
    refine lv_aload_n hx hb dX5_wish_22 rfl (lv_at hl 0 rfl) ?_
    refine va_get (D := G) (ci := 5) (v := .ref (a 10)) (C := RX5) (T := TX5) (N := 17) hx hb hts hin5 hown hK hP 0 rfl rfl 10 (by decide) fl_38 (fun _ h9 => h9) rfl dX5_wish_23 ?_
    refine lv_iload_n hx hb dX5_wish_26 rfl (lv_at hl 1 rfl) ?_
    refine fw_iald (j := x) (f := nb) hx hb hK hP 10 1 rfl rfl (by omega) (by decide) dX5_wish_27 ?_
    refine lv_iadd hx hb dX5_wish_28 ?_
    exact hri _ rfl (10000 + (nb x)) _ _ _ _ _ (rfl) (⟨by rw [if_pos c_16], rfl⟩) hP hD hS dX5_wish_29
