abbrev rmX4_number : Room := { frames := 1, cells := 0, slots := 0, locals := 21 }
set_option maxHeartbeats 4000000 in
set_option maxRecDepth 100000 in
theorem c_number_no (l : Launch) (G : va_G) (cB cI cZ : ClassId) (tc : Nat) (a : Nat → Nat) (rn lv lk ss rw sg od aw tb md ql dr : Nat → Int32) (g : Nat) (r : Nat) (n : Nat) (x1 : Int32) (h : px_isS x1 = false) : KC l yX4_number wsX4_number rmX4_number G [(cB, .byte), (cI, .int), (cZ, .boolean)] tc [.ref (a 0), .int x1] (wd a cB cI cZ (nI g) rn lv (nI r) lk ss rw sg (nI n) od aw tb md ql dr) (fun v w' => v = some (.int (-1)) ∧ w' = (wd a cB cI cZ (nI g) rn lv (nI r) lk ss rw sg (nI n) od aw tb md ql dr)) := by
  refine KC.of (cc := cX4_number) (maxL := 2) (ret := some .int) (by decide) rfl (Nat.le_of_ble_eq_true rfl) ?_
  intro p e s m below meth c args A Q ls hx hb hml hown hts hK hZ hA hP hD hS hl hri hrv
  have hown : s.vm.findClass RX4 = some m.cls := hown
  have hl : lv_has ls 2 [(0, .ref (a 0)), (1, .int x1)] := hl
  have fl_10 := hts (.fieldLink RX4 10 "LockDesk" "numbers" "LLockDesk$Numbers;") (by decide +kernel)
  have hin4 : ∀ w ∈ wsX40, w ∈ wsX4_number := by decide +kernel
  refine lv_iload_n hx hb dX4_number_0 rfl (lv_at hl 1 rfl) ?_
  refine kS (As := [.int x1]) (rest := []) ⟨hx, hb, hml, hown, hts⟩ (c_X4_isSession l G [(cB, .byte), (cI, .int), (cZ, .boolean)] tc (wd a cB cI cZ (nI g) rn lv (nI r) lk ss rw sg (nI n) od aw tb md ql dr) x1) (va_cwS 1 hts gX4_number_X4_isSession rfl rfl rfl (by decide +kernel) ⟨by decide, by decide⟩) hK hZ hA hP hD hS rfl hl.1 rfl (Nat.le_of_ble_eq_true rfl) dX4_number_1 ⟨Nat.zero_le _, Nat.zero_le _⟩ (fun v w' H locs hp hP hD hS => ?_)
  obtain ⟨rfl, rfl⟩ := hp
  have hP : va_P G vwCl (wd a cB cI cZ (nI g) rn lv (nI r) lk ss rw sg (nI n) od aw tb md ql dr) H := hP
  have hD : va_D A (wd a cB cI cZ (nI g) rn lv (nI r) lk ss rw sg (nI n) od aw tb md ql dr) := hD
  refine W.eq (g2 := F0 m 4 ls [.int (fw_b (px_isS x1))]) rfl ?_
  refine lv_if_eq (tgt := 18) hx hb dX4_number_4 (by decide) (fun c_4 => ?_) (fun c_4 => False.elim (by rw [h] at c_4; exact c_4 rfl))
  have c_4 := fw_b0.mp c_4
  refine lv_iconst (v := (-1)) hx hb dX4_number_18 (by decide) ?_
  exact hri _ rfl (-1) _ _ _ _ _ (rfl) (⟨rfl, rfl⟩) hP hD hS dX4_number_19

set_option maxHeartbeats 4000000 in
set_option maxRecDepth 100000 in
theorem c_number_ok (l : Launch) (G : va_G) (cB cI cZ : ClassId) (tc : Nat) (a : Nat → Nat) (rn lv lk ss rw sg od aw tb md ql dr : Nat → Int32) (g : Nat) (r : Nat) (n : Nat) (x : Nat) (hg : g < 4000) (hx6 : x < 6)  : KC l yX4_number wsX4_number rmX4_number G [(cB, .byte), (cI, .int), (cZ, .boolean)] tc [.ref (a 0), .int (nI x)] (wd a cB cI cZ (nI g) rn lv (nI r) lk ss rw sg (nI n) od aw tb md ql dr) (fun v w' => v = some (.int (nI (g + 1))) ∧ w' = (wd a cB cI cZ (nI (g + 1)) (upd rn (g + 1) (nI x)) lv (nI r) lk ss rw sg (nI n) od aw tb md ql dr)) := by
  refine KC.of (cc := cX4_number) (maxL := 2) (ret := some .int) (by decide) rfl (Nat.le_of_ble_eq_true rfl) ?_
  intro p e s m below meth c args A Q ls hx hb hml hown hts hK hZ hA hP hD hS hl hri hrv
  have hown : s.vm.findClass RX4 = some m.cls := hown
  have hl : lv_has ls 2 [(0, .ref (a 0)), (1, .int (nI x))] := hl
  have fl_10 := hts (.fieldLink RX4 10 "LockDesk" "numbers" "LLockDesk$Numbers;") (by decide +kernel)
  have hin4 : ∀ w ∈ wsX40, w ∈ wsX4_number := by decide +kernel
  refine lv_iload_n hx hb dX4_number_0 rfl (lv_at hl 1 rfl) ?_
  refine kS (As := [.int (nI x)]) (rest := []) ⟨hx, hb, hml, hown, hts⟩ (c_X4_isSession l G [(cB, .byte), (cI, .int), (cZ, .boolean)] tc (wd a cB cI cZ (nI g) rn lv (nI r) lk ss rw sg (nI n) od aw tb md ql dr) (nI x)) (va_cwS 1 hts gX4_number_X4_isSession rfl rfl rfl (by decide +kernel) ⟨by decide, by decide⟩) hK hZ hA hP hD hS rfl hl.1 rfl (Nat.le_of_ble_eq_true rfl) dX4_number_1 ⟨Nat.zero_le _, Nat.zero_le _⟩ (fun v w' H locs hp hP hD hS => ?_)
  obtain ⟨rfl, rfl⟩ := hp
  have hP : va_P G vwCl (wd a cB cI cZ (nI g) rn lv (nI r) lk ss rw sg (nI n) od aw tb md ql dr) H := hP
  have hD : va_D A (wd a cB cI cZ (nI g) rn lv (nI r) lk ss rw sg (nI n) od aw tb md ql dr) := hD
  refine W.eq (g2 := F0 m 4 ls [.int (fw_b (px_isS (nI x)))]) rfl ?_
  refine lv_if_eq (tgt := 18) hx hb dX4_number_4 (by decide) (fun c_4 => False.elim (by rw [px_isS_nI x hx6] at c_4; exact absurd c_4 (by decide))) (fun c_4 => ?_)
  have c_4 := fw_b1.mp c_4
  refine lv_aload_n hx hb dX4_number_7 rfl (lv_at hl 0 rfl) ?_
  refine va_get (D := G) (ci := 4) (v := .ref (a 1)) (C := RX4) (T := TX4) (N := 4) hx hb hts hin4 hown hK hP 0 rfl rfl 0 (by decide) fl_10 (fun _ h9 => h9) rfl dX4_number_8 ?_
  refine lv_iload_n hx hb dX4_number_11 rfl (lv_at hl 1 rfl) ?_
  refine kV (As := [.int (nI x)]) (rest := []) ⟨hx, hb, hml, hown, hts⟩ (c_X1_give l G cB cI cZ tc a (nI r) (nI n) rn lv lk ss rw sg od aw tb md ql dr g x hg hx6) (cwV 1 hts gX4_number_X1_give rfl rfl rfl (by decide +kernel) ⟨by decide, by decide⟩) hK hZ hA hP hD hS 1 1 rfl rfl rfl hl.1 rfl (Nat.le_of_ble_eq_true rfl) dX4_number_12 ⟨Nat.zero_le _, Nat.zero_le _⟩ (fun v w' H locs hp hP hD hS => ?_)
  obtain ⟨rfl, rfl⟩ := hp
  have hP : va_P G vwCl (wd a cB cI cZ (nI (g + 1)) (upd rn (g + 1) (nI x)) lv (nI r) lk ss rw sg (nI n) od aw tb md ql dr) H := hP
  have hD : va_D A (wd a cB cI cZ (nI (g + 1)) (upd rn (g + 1) (nI x)) lv (nI r) lk ss rw sg (nI n) od aw tb md ql dr) := hD
  refine W.eq (g2 := F0 m 15 ls [.int (nI (g + 1))]) rfl ?_
  refine lv_goto (tgt := 19) hx hb dX4_number_15 (by decide) ?_
  exact hri _ rfl (nI (g + 1)) _ _ _ _ _ (rfl) (⟨rfl, rfl⟩) hP hD hS dX4_number_19

abbrev rmX4_over : Room := { frames := 3, cells := 0, slots := 0, locals := 67 }
set_option maxHeartbeats 4000000 in
set_option maxRecDepth 100000 in
theorem c_over_no (l : Launch) (G : va_G) (cB cI cZ : ClassId) (tc : Nat) (a : Nat → Nat) (rn lv lk ss rw sg od aw tb md ql dr : Nat → Int32) (g : Nat) (r : Nat) (n : Nat) (x1 : Int32) (hg : g < 4000) (h : px_run g rn x1 = -1) : KC l yX4_over wsX4_over rmX4_over G [(cB, .byte), (cI, .int), (cZ, .boolean)] tc [.ref (a 0), .int x1] (wd a cB cI cZ (nI g) rn lv (nI r) lk ss rw sg (nI n) od aw tb md ql dr) (fun v w' => v = some (.int (0)) ∧ w' = (wd a cB cI cZ (nI g) rn lv (nI r) lk ss rw sg (nI n) od aw tb md ql dr)) := by
  refine KC.of (cc := cX4_over) (maxL := 2) (ret := some .boolean) (by decide) rfl (Nat.le_of_ble_eq_true rfl) ?_
  intro p e s m below meth c args A Q ls hx hb hml hown hts hK hZ hA hP hD hS hl hri hrv
  have hown : s.vm.findClass RX4 = some m.cls := hown
  have hl : lv_has ls 2 [(0, .ref (a 0)), (1, .int x1)] := hl
  have fl_10 := hts (.fieldLink RX4 10 "LockDesk" "numbers" "LLockDesk$Numbers;") (by decide +kernel)
  have fl_26 := hts (.fieldLink RX4 26 "LockDesk" "rowLocks" "LLockDesk$RowLocks;") (by decide +kernel)
  have hin4 : ∀ w ∈ wsX40, w ∈ wsX4_over := by decide +kernel
  refine lv_aload_n hx hb dX4_over_0 rfl (lv_at hl 0 rfl) ?_
  refine va_get (D := G) (ci := 4) (v := .ref (a 1)) (C := RX4) (T := TX4) (N := 4) hx hb hts hin4 hown hK hP 0 rfl rfl 0 (by decide) fl_10 (fun _ h9 => h9) rfl dX4_over_1 ?_
  refine lv_iload_n hx hb dX4_over_4 rfl (lv_at hl 1 rfl) ?_
  refine kV (As := [.int x1]) (rest := []) ⟨hx, hb, hml, hown, hts⟩ (c_X1_runnerOf l G cB cI cZ tc a (nI r) (nI n) rn lv lk ss rw sg od aw tb md ql dr g x1 hg) (cwV 1 hts gX4_over_X1_runnerOf rfl rfl rfl (by decide +kernel) ⟨by decide, by decide⟩) hK hZ hA hP hD hS 1 1 rfl rfl rfl hl.1 rfl (Nat.le_of_ble_eq_true rfl) dX4_over_5 ⟨Nat.zero_le _, Nat.zero_le _⟩ (fun v w' H locs hp hP hD hS => ?_)
  obtain ⟨rfl, rfl⟩ := hp
  have hP : va_P G vwCl (wd a cB cI cZ (nI g) rn lv (nI r) lk ss rw sg (nI n) od aw tb md ql dr) H := hP
  have hD : va_D A (wd a cB cI cZ (nI g) rn lv (nI r) lk ss rw sg (nI n) od aw tb md ql dr) := hD
  refine W.eq (g2 := F0 m 8 ls [.int (px_run g rn x1)]) rfl ?_
  refine lv_iconst (v := (-1)) hx hb dX4_over_8 (by decide) ?_
  refine lv_icmp_ne (tgt := 14) hx hb dX4_over_9 (by decide) (fun c_9 => False.elim (c_9 h)) (fun c_9 => ?_)
  refine lv_iconst (v := 0) hx hb dX4_over_12 (by decide) ?_
  exact hri _ rfl 0 _ _ _ _ _ (by decide) (⟨rfl, rfl⟩) hP hD hS dX4_over_13

set_option maxHeartbeats 4000000 in
set_option maxRecDepth 100000 in
theorem c_over_ok (l : Launch) (G : va_G) (cB cI cZ : ClassId) (tc : Nat) (a : Nat → Nat) (rn lv lk ss rw sg od aw tb md ql dr : Nat → Int32) (g : Nat) (r : Nat) (n : Nat) (k : Nat) (hg : g < 4000) (hr5 : r ≤ 512) (hk1 : 1 ≤ k) (hk2 : k ≤ g) (h : ¬ rn k = -1) : KC l yX4_over wsX4_over rmX4_over G [(cB, .byte), (cI, .int), (cZ, .boolean)] tc [.ref (a 0), .int (nI k)] (wd a cB cI cZ (nI g) rn lv (nI r) lk ss rw sg (nI n) od aw tb md ql dr) (fun v w' => v = some (.int (1)) ∧ w' = (wd a cB cI cZ (nI g) (upd rn k (-1)) lv (nI (px_fw (fun q => q.1) (nI k) r (lk, ss, rw, sg)).1) ((px_fw (fun q => q.1) (nI k) r (lk, ss, rw, sg)).2.1) ((px_fw (fun q => q.1) (nI k) r (lk, ss, rw, sg)).2.2.1) ((px_fw (fun q => q.1) (nI k) r (lk, ss, rw, sg)).2.2.2.1) ((px_fw (fun q => q.1) (nI k) r (lk, ss, rw, sg)).2.2.2.2) (nI n) od aw tb md ql dr)) := by
  refine KC.of (cc := cX4_over) (maxL := 2) (ret := some .boolean) (by decide) rfl (Nat.le_of_ble_eq_true rfl) ?_
  intro p e s m below meth c args A Q ls hx hb hml hown hts hK hZ hA hP hD hS hl hri hrv
  have hown : s.vm.findClass RX4 = some m.cls := hown
  have hl : lv_has ls 2 [(0, .ref (a 0)), (1, .int (nI k))] := hl
  have fl_10 := hts (.fieldLink RX4 10 "LockDesk" "numbers" "LLockDesk$Numbers;") (by decide +kernel)
  have fl_26 := hts (.fieldLink RX4 26 "LockDesk" "rowLocks" "LLockDesk$RowLocks;") (by decide +kernel)
  have hin4 : ∀ w ∈ wsX40, w ∈ wsX4_over := by decide +kernel
  refine lv_aload_n hx hb dX4_over_0 rfl (lv_at hl 0 rfl) ?_
  refine va_get (D := G) (ci := 4) (v := .ref (a 1)) (C := RX4) (T := TX4) (N := 4) hx hb hts hin4 hown hK hP 0 rfl rfl 0 (by decide) fl_10 (fun _ h9 => h9) rfl dX4_over_1 ?_
  refine lv_iload_n hx hb dX4_over_4 rfl (lv_at hl 1 rfl) ?_
  refine kV (As := [.int (nI k)]) (rest := []) ⟨hx, hb, hml, hown, hts⟩ (c_X1_runnerOf l G cB cI cZ tc a (nI r) (nI n) rn lv lk ss rw sg od aw tb md ql dr g (nI k) hg) (cwV 1 hts gX4_over_X1_runnerOf rfl rfl rfl (by decide +kernel) ⟨by decide, by decide⟩) hK hZ hA hP hD hS 1 1 rfl rfl rfl hl.1 rfl (Nat.le_of_ble_eq_true rfl) dX4_over_5 ⟨Nat.zero_le _, Nat.zero_le _⟩ (fun v w' H locs hp hP hD hS => ?_)
  obtain ⟨rfl, rfl⟩ := hp
  have hP : va_P G vwCl (wd a cB cI cZ (nI g) rn lv (nI r) lk ss rw sg (nI n) od aw tb md ql dr) H := hP
  have hD : va_D A (wd a cB cI cZ (nI g) rn lv (nI r) lk ss rw sg (nI n) od aw tb md ql dr) := hD
  refine W.eq (g2 := F0 m 8 ls [.int (px_run g rn (nI k))]) rfl ?_
  refine lv_iconst (v := (-1)) hx hb dX4_over_8 (by decide) ?_
  refine lv_icmp_ne (tgt := 14) hx hb dX4_over_9 (by decide) (fun c_9 => ?_) (fun c_9 => False.elim (h ((px_run_nI (by omega) hk1 hk2).symm.trans c_9)))
  refine lv_aload_n hx hb dX4_over_14 rfl (lv_at hl 0 rfl) ?_
  refine va_get (D := G) (ci := 4) (v := .ref (a 1)) (C := RX4) (T := TX4) (N := 4) hx hb hts hin4 hown hK hP 0 rfl rfl 0 (by decide) fl_10 (fun _ h9 => h9) rfl dX4_over_15 ?_
  refine lv_iload_n hx hb dX4_over_18 rfl (lv_at hl 1 rfl) ?_
  refine kV (As := [.int (nI k)]) (rest := []) ⟨hx, hb, hml, hown, hts⟩ (c_X1_stop l G cB cI cZ tc a (nI r) (nI n) rn lv lk ss rw sg od aw tb md ql dr g k hg hk1 hk2) (cwV 1 hts gX4_over_X1_stop rfl rfl rfl (by decide +kernel) ⟨by decide, by decide⟩) hK hZ hA hP hD hS 1 1 rfl rfl rfl hl.1 rfl (Nat.le_of_ble_eq_true rfl) dX4_over_19 ⟨Nat.zero_le _, Nat.zero_le _⟩ (fun v w' H locs hp hP hD hS => ?_)
  obtain ⟨rfl, rfl⟩ := hp
  have hP : va_P G vwCl (wd a cB cI cZ (nI g) (upd rn k (-1)) lv (nI r) lk ss rw sg (nI n) od aw tb md ql dr) H := hP
  have hD : va_D A (wd a cB cI cZ (nI g) (upd rn k (-1)) lv (nI r) lk ss rw sg (nI n) od aw tb md ql dr) := hD
  refine W.eq (g2 := F0 m 22 ls []) rfl ?_
  refine lv_aload_n hx hb dX4_over_22 rfl (lv_at hl 0 rfl) ?_
  refine va_get (D := G) (ci := 4) (v := .ref (a 3)) (C := RX4) (T := TX4) (N := 4) hx hb hts hin4 hown hK hP 0 rfl rfl 2 (by decide) fl_26 (fun _ h9 => h9) rfl dX4_over_23 ?_
  refine lv_iload_n hx hb dX4_over_26 rfl (lv_at hl 1 rfl) ?_
  refine kV (As := [.int (nI k)]) (rest := []) ⟨hx, hb, hml, hown, hts⟩ (c_X3_forgetNumber l G cB cI cZ tc a (nI g) (nI n) (upd rn k (-1)) lv lk ss rw sg od aw tb md ql dr r (nI k) hr5) (cwV 1 hts gX4_over_X3_forgetNumber rfl rfl rfl (by decide +kernel) ⟨by decide, by decide⟩) hK hZ hA hP hD hS 3 3 rfl rfl rfl hl.1 rfl (Nat.le_of_ble_eq_true rfl) dX4_over_27 ⟨Nat.zero_le _, Nat.zero_le _⟩ (fun v w' H locs hp hP hD hS => ?_)
  obtain ⟨rfl, rfl⟩ := hp
  have hP : va_P G vwCl (wd a cB cI cZ (nI g) (upd rn k (-1)) lv (nI (px_fw (fun q => q.1) (nI k) r (lk, ss, rw, sg)).1) ((px_fw (fun q => q.1) (nI k) r (lk, ss, rw, sg)).2.1) ((px_fw (fun q => q.1) (nI k) r (lk, ss, rw, sg)).2.2.1) ((px_fw (fun q => q.1) (nI k) r (lk, ss, rw, sg)).2.2.2.1) ((px_fw (fun q => q.1) (nI k) r (lk, ss, rw, sg)).2.2.2.2) (nI n) od aw tb md ql dr) H := hP
  have hD : va_D A (wd a cB cI cZ (nI g) (upd rn k (-1)) lv (nI (px_fw (fun q => q.1) (nI k) r (lk, ss, rw, sg)).1) ((px_fw (fun q => q.1) (nI k) r (lk, ss, rw, sg)).2.1) ((px_fw (fun q => q.1) (nI k) r (lk, ss, rw, sg)).2.2.1) ((px_fw (fun q => q.1) (nI k) r (lk, ss, rw, sg)).2.2.2.1) ((px_fw (fun q => q.1) (nI k) r (lk, ss, rw, sg)).2.2.2.2) (nI n) od aw tb md ql dr) := hD
  refine W.eq (g2 := F0 m 30 ls []) rfl ?_
  refine lv_iconst (v := 1) hx hb dX4_over_30 (by decide) ?_
  exact hri _ rfl 1 _ _ _ _ _ (by decide) (⟨rfl, rfl⟩) hP hD hS dX4_over_31

abbrev rmX4_ask : Room := { frames := 6, cells := 0, slots := 0, locals := 142 }
set_option maxHeartbeats 4000000 in
set_option maxRecDepth 100000 in
theorem c_ask_no (l : Launch) (G : va_G) (cB cI cZ : ClassId) (tc : Nat) (a : Nat → Nat) (rn lv lk ss rw sg od aw tb md ql dr : Nat → Int32) (g : Nat) (r : Nat) (n : Nat) (x1 : Int32) (x2 : Int32) (x3 : Int32) (x4 : Int32) (h : (px_isS x1 && px_isT x2 && px_isT x3 && px_isM x4) = false) : KC l yX4_ask wsX4_ask rmX4_ask G [(cB, .byte), (cI, .int), (cZ, .boolean)] tc [.ref (a 0), .int x1, .int x2, .int x3, .int x4] (wd a cB cI cZ (nI g) rn lv (nI r) lk ss rw sg (nI n) od aw tb md ql dr) (fun v w' => v = some (.int (-1)) ∧ w' = (wd a cB cI cZ (nI g) rn lv (nI r) lk ss rw sg (nI n) od aw tb md ql dr)) := by
  refine KC.of (cc := cX4_ask) (maxL := 6) (ret := some .int) (by decide) rfl (Nat.le_of_ble_eq_true rfl) ?_
  intro p e s m below meth c args A Q ls hx hb hml hown hts hK hZ hA hP hD hS hl hri hrv
  have hown : s.vm.findClass RX4 = some m.cls := hown
  have hl : lv_has ls 6 [(0, .ref (a 0)), (1, .int x1), (2, .int x2), (3, .int x3), (4, .int x4)] := hl
  have fl_19 := hts (.fieldLink RX4 19 "LockDesk" "holdings" "LLockDesk$Holdings;") (by decide +kernel)
  have fl_33 := hts (.fieldLink RX4 33 "LockDesk" "queue" "LLockDesk$Queue;") (by decide +kernel)
  have hin4 : ∀ w ∈ wsX40, w ∈ wsX4_ask := by decide +kernel
  refine lv_iload_n hx hb dX4_ask_0 rfl (lv_at hl 1 rfl) ?_
  refine kS (As := [.int x1]) (rest := []) ⟨hx, hb, hml, hown, hts⟩ (c_X4_isSession l G [(cB, .byte), (cI, .int), (cZ, .boolean)] tc (wd a cB cI cZ (nI g) rn lv (nI r) lk ss rw sg (nI n) od aw tb md ql dr) x1) (va_cwS 1 hts gX4_ask_X4_isSession rfl rfl rfl (by decide +kernel) ⟨by decide, by decide⟩) hK hZ hA hP hD hS rfl hl.1 rfl (Nat.le_of_ble_eq_true rfl) dX4_ask_1 ⟨Nat.zero_le _, Nat.zero_le _⟩ (fun v w' H locs hp hP hD hS => ?_)
  obtain ⟨rfl, rfl⟩ := hp
  have hP : va_P G vwCl (wd a cB cI cZ (nI g) rn lv (nI r) lk ss rw sg (nI n) od aw tb md ql dr) H := hP
  have hD : va_D A (wd a cB cI cZ (nI g) rn lv (nI r) lk ss rw sg (nI n) od aw tb md ql dr) := hD
  refine W.eq (g2 := F0 m 4 ls [.int (fw_b (px_isS x1))]) rfl ?_
  refine lv_if_eq (tgt := 29) hx hb dX4_ask_4 (by decide) (fun c_4 => ?_) (fun c_4 => ?_)
  · have c_4 := fw_b0.mp c_4
    refine lv_iconst (v := (-1)) hx hb dX4_ask_29 (by decide) ?_
    exact hri _ rfl (-1) _ _ _ _ _ (rfl) (⟨rfl, rfl⟩) hP hD hS dX4_ask_30
  · have c_4 := fw_b1.mp c_4
    refine lv_iload_n hx hb dX4_ask_7 rfl (lv_at hl 2 rfl) ?_
    refine kS (As := [.int x2]) (rest := []) ⟨hx, hb, hml, hown, hts⟩ (c_X4_isLevel l G [(cB, .byte), (cI, .int), (cZ, .boolean)] tc (wd a cB cI cZ (nI g) rn lv (nI r) lk ss rw sg (nI n) od aw tb md ql dr) x2) (va_cwS 1 hts gX4_ask_X4_isLevel rfl rfl rfl (by decide +kernel) ⟨by decide, by decide⟩) hK hZ hA hP hD hS rfl hl.1 rfl (Nat.le_of_ble_eq_true rfl) dX4_ask_8 ⟨Nat.zero_le _, Nat.zero_le _⟩ (fun v w' H locs hp hP hD hS => ?_)
    obtain ⟨rfl, rfl⟩ := hp
    have hP : va_P G vwCl (wd a cB cI cZ (nI g) rn lv (nI r) lk ss rw sg (nI n) od aw tb md ql dr) H := hP
    have hD : va_D A (wd a cB cI cZ (nI g) rn lv (nI r) lk ss rw sg (nI n) od aw tb md ql dr) := hD
    refine W.eq (g2 := F0 m 11 ls [.int (fw_b (px_isT x2))]) rfl ?_
    refine lv_if_eq (tgt := 29) hx hb dX4_ask_11 (by decide) (fun c_11 => ?_) (fun c_11 => ?_)
    · have c_11 := fw_b0.mp c_11
      refine lv_iconst (v := (-1)) hx hb dX4_ask_29 (by decide) ?_
      exact hri _ rfl (-1) _ _ _ _ _ (rfl) (⟨rfl, rfl⟩) hP hD hS dX4_ask_30
    · have c_11 := fw_b1.mp c_11
      refine lv_iload_n hx hb dX4_ask_14 rfl (lv_at hl 3 rfl) ?_
      refine kS (As := [.int x3]) (rest := []) ⟨hx, hb, hml, hown, hts⟩ (c_X4_isTable l G [(cB, .byte), (cI, .int), (cZ, .boolean)] tc (wd a cB cI cZ (nI g) rn lv (nI r) lk ss rw sg (nI n) od aw tb md ql dr) x3) (va_cwS 1 hts gX4_ask_X4_isTable rfl rfl rfl (by decide +kernel) ⟨by decide, by decide⟩) hK hZ hA hP hD hS rfl hl.1 rfl (Nat.le_of_ble_eq_true rfl) dX4_ask_15 ⟨Nat.zero_le _, Nat.zero_le _⟩ (fun v w' H locs hp hP hD hS => ?_)
      obtain ⟨rfl, rfl⟩ := hp
      have hP : va_P G vwCl (wd a cB cI cZ (nI g) rn lv (nI r) lk ss rw sg (nI n) od aw tb md ql dr) H := hP
      have hD : va_D A (wd a cB cI cZ (nI g) rn lv (nI r) lk ss rw sg (nI n) od aw tb md ql dr) := hD
      refine W.eq (g2 := F0 m 18 ls [.int (fw_b (px_isT x3))]) rfl ?_
      refine lv_if_eq (tgt := 29) hx hb dX4_ask_18 (by decide) (fun c_18 => ?_) (fun c_18 => ?_)
      · have c_18 := fw_b0.mp c_18
        refine lv_iconst (v := (-1)) hx hb dX4_ask_29 (by decide) ?_
        exact hri _ rfl (-1) _ _ _ _ _ (rfl) (⟨rfl, rfl⟩) hP hD hS dX4_ask_30
      · have c_18 := fw_b1.mp c_18
        refine lv_iload hx hb dX4_ask_21 (lv_at hl 4 rfl) ?_
        refine kS (As := [.int x4]) (rest := []) ⟨hx, hb, hml, hown, hts⟩ (c_X4_isMode l G [(cB, .byte), (cI, .int), (cZ, .boolean)] tc (wd a cB cI cZ (nI g) rn lv (nI r) lk ss rw sg (nI n) od aw tb md ql dr) x4) (va_cwS 1 hts gX4_ask_X4_isMode rfl rfl rfl (by decide +kernel) ⟨by decide, by decide⟩) hK hZ hA hP hD hS rfl hl.1 rfl (Nat.le_of_ble_eq_true rfl) dX4_ask_23 ⟨Nat.zero_le _, Nat.zero_le _⟩ (fun v w' H locs hp hP hD hS => ?_)
        obtain ⟨rfl, rfl⟩ := hp
        have hP : va_P G vwCl (wd a cB cI cZ (nI g) rn lv (nI r) lk ss rw sg (nI n) od aw tb md ql dr) H := hP
        have hD : va_D A (wd a cB cI cZ (nI g) rn lv (nI r) lk ss rw sg (nI n) od aw tb md ql dr) := hD
        refine W.eq (g2 := F0 m 26 ls [.int (fw_b (px_isM x4))]) rfl ?_
        refine lv_if_ne (tgt := 31) hx hb dX4_ask_26 (by decide) (fun c_26 => False.elim (by have c_26 := fw_b1.mp c_26; simp [c_4, c_11, c_18, c_26] at h)) (fun c_26 => ?_)
        have c_26 := fw_b0.mp c_26
        refine lv_iconst (v := (-1)) hx hb dX4_ask_29 (by decide) ?_
        exact hri _ rfl (-1) _ _ _ _ _ (rfl) (⟨rfl, rfl⟩) hP hD hS dX4_ask_30

set_option maxHeartbeats 4000000 in
set_option maxRecDepth 100000 in
theorem c_ask_ok (l : Launch) (G : va_G) (cB cI cZ : ClassId) (tc : Nat) (a : Nat → Nat) (rn lv lk ss rw sg od aw tb md ql dr : Nat → Int32) (g : Nat) (r : Nat) (n : Nat) (x : Nat) (z : Nat) (y : Nat) (k : Nat) (hx6 : x < 6) (hz8 : z < 8) (hy8 : y < 8) (hk8 : k < 8) (hn : (px_pl n od (nI x)).isSome = false → n < 6) (hI : px_I g n od aw tb md ql dr) : KC l yX4_ask wsX4_ask rmX4_ask G [(cB, .byte), (cI, .int), (cZ, .boolean)] tc [.ref (a 0), .int (nI x), .int (nI z), .int (nI y), .int (nI (k + 1))] (wd a cB cI cZ (nI g) rn lv (nI r) lk ss rw sg (nI n) od aw tb md ql dr) (fun v w' => if (px_pl n od (nI x)).isSome = true then v = some (.int (-1)) ∧ w' = (wd a cB cI cZ (nI g) rn lv (nI r) lk ss rw sg (nI n) od aw tb md ql dr) else if ¬ lv (64 * x + 8 * y + k) = -1 then v = some (.int 0) ∧ w' = (wd a cB cI cZ (nI g) rn lv (nI r) lk ss rw sg (nI n) od aw tb md ql dr) else if px_way n lv od aw tb md dr x y (k + 1) n = 0 then v = some (.int 0) ∧ w' = (wd a cB cI cZ (nI g) rn (upd lv (64 * x + 8 * y + k) (nI z)) (nI r) lk ss rw sg (nI n) od aw tb md ql dr) else if px_cr (px_wo g n rn lv od aw tb md dr) (nI x) (px_way n lv od aw tb md dr x y (k + 1) n) = true then v = some (.int 2) ∧ w' = (wd a cB cI cZ (nI g) rn lv (nI r) lk ss rw sg (nI n) od aw tb md ql dr) else v = some (.int 1) ∧ w' = (wd a cB cI cZ (nI g) rn lv (nI r) lk ss rw sg (nI (n + 1)) (upd od n (nI x)) (upd aw x 0) (upd tb x (nI y)) (upd md x (nI (k + 1))) (upd ql x (nI z)) (upd dr x 0))) := by
  refine KC.of (cc := cX4_ask) (maxL := 6) (ret := some .int) (by decide) rfl (Nat.le_of_ble_eq_true rfl) ?_
  intro p e s m below meth c args A Q ls hx hb hml hown hts hK hZ hA hP hD hS hl hri hrv
  have hown : s.vm.findClass RX4 = some m.cls := hown
  have hl : lv_has ls 6 [(0, .ref (a 0)), (1, .int (nI x)), (2, .int (nI z)), (3, .int (nI y)), (4, .int (nI (k + 1)))] := hl
  have fl_19 := hts (.fieldLink RX4 19 "LockDesk" "holdings" "LLockDesk$Holdings;") (by decide +kernel)
  have fl_33 := hts (.fieldLink RX4 33 "LockDesk" "queue" "LLockDesk$Queue;") (by decide +kernel)
  have hin4 : ∀ w ∈ wsX40, w ∈ wsX4_ask := by decide +kernel
  have hI0 := hI
  obtain ⟨hg, hn6, hod, htb, hmd, hdr, hql, hmk⟩ := hI
  refine lv_iload_n hx hb dX4_ask_0 rfl (lv_at hl 1 rfl) ?_
  refine kS (As := [.int (nI x)]) (rest := []) ⟨hx, hb, hml, hown, hts⟩ (c_X4_isSession l G [(cB, .byte), (cI, .int), (cZ, .boolean)] tc (wd a cB cI cZ (nI g) rn lv (nI r) lk ss rw sg (nI n) od aw tb md ql dr) (nI x)) (va_cwS 1 hts gX4_ask_X4_isSession rfl rfl rfl (by decide +kernel) ⟨by decide, by decide⟩) hK hZ hA hP hD hS rfl hl.1 rfl (Nat.le_of_ble_eq_true rfl) dX4_ask_1 ⟨Nat.zero_le _, Nat.zero_le _⟩ (fun v w' H locs hp hP hD hS => ?_)
  obtain ⟨rfl, rfl⟩ := hp
  have hP : va_P G vwCl (wd a cB cI cZ (nI g) rn lv (nI r) lk ss rw sg (nI n) od aw tb md ql dr) H := hP
  have hD : va_D A (wd a cB cI cZ (nI g) rn lv (nI r) lk ss rw sg (nI n) od aw tb md ql dr) := hD
  refine W.eq (g2 := F0 m 4 ls [.int (fw_b (px_isS (nI x)))]) rfl ?_
  refine lv_if_eq (tgt := 29) hx hb dX4_ask_4 (by decide) (fun c_4 => False.elim (by rw [px_isS_nI x hx6] at c_4; exact absurd c_4 (by decide))) (fun c_4 => ?_)
  have c_4 := fw_b1.mp c_4
  refine lv_iload_n hx hb dX4_ask_7 rfl (lv_at hl 2 rfl) ?_
  refine kS (As := [.int (nI z)]) (rest := []) ⟨hx, hb, hml, hown, hts⟩ (c_X4_isLevel l G [(cB, .byte), (cI, .int), (cZ, .boolean)] tc (wd a cB cI cZ (nI g) rn lv (nI r) lk ss rw sg (nI n) od aw tb md ql dr) (nI z)) (va_cwS 1 hts gX4_ask_X4_isLevel rfl rfl rfl (by decide +kernel) ⟨by decide, by decide⟩) hK hZ hA hP hD hS rfl hl.1 rfl (Nat.le_of_ble_eq_true rfl) dX4_ask_8 ⟨Nat.zero_le _, Nat.zero_le _⟩ (fun v w' H locs hp hP hD hS => ?_)
  obtain ⟨rfl, rfl⟩ := hp
  have hP : va_P G vwCl (wd a cB cI cZ (nI g) rn lv (nI r) lk ss rw sg (nI n) od aw tb md ql dr) H := hP
  have hD : va_D A (wd a cB cI cZ (nI g) rn lv (nI r) lk ss rw sg (nI n) od aw tb md ql dr) := hD
  refine W.eq (g2 := F0 m 11 ls [.int (fw_b (px_isT (nI z)))]) rfl ?_
  refine lv_if_eq (tgt := 29) hx hb dX4_ask_11 (by decide) (fun c_11 => False.elim (by rw [px_isT_nI z hz8] at c_11; exact absurd c_11 (by decide))) (fun c_11 => ?_)
  have c_11 := fw_b1.mp c_11
  refine lv_iload_n hx hb dX4_ask_14 rfl (lv_at hl 3 rfl) ?_
  refine kS (As := [.int (nI y)]) (rest := []) ⟨hx, hb, hml, hown, hts⟩ (c_X4_isTable l G [(cB, .byte), (cI, .int), (cZ, .boolean)] tc (wd a cB cI cZ (nI g) rn lv (nI r) lk ss rw sg (nI n) od aw tb md ql dr) (nI y)) (va_cwS 1 hts gX4_ask_X4_isTable rfl rfl rfl (by decide +kernel) ⟨by decide, by decide⟩) hK hZ hA hP hD hS rfl hl.1 rfl (Nat.le_of_ble_eq_true rfl) dX4_ask_15 ⟨Nat.zero_le _, Nat.zero_le _⟩ (fun v w' H locs hp hP hD hS => ?_)
  obtain ⟨rfl, rfl⟩ := hp
  have hP : va_P G vwCl (wd a cB cI cZ (nI g) rn lv (nI r) lk ss rw sg (nI n) od aw tb md ql dr) H := hP
  have hD : va_D A (wd a cB cI cZ (nI g) rn lv (nI r) lk ss rw sg (nI n) od aw tb md ql dr) := hD
  refine W.eq (g2 := F0 m 18 ls [.int (fw_b (px_isT (nI y)))]) rfl ?_
  refine lv_if_eq (tgt := 29) hx hb dX4_ask_18 (by decide) (fun c_18 => False.elim (by rw [px_isT_nI y hy8] at c_18; exact absurd c_18 (by decide))) (fun c_18 => ?_)
  have c_18 := fw_b1.mp c_18
  refine lv_iload hx hb dX4_ask_21 (lv_at hl 4 rfl) ?_
  refine kS (As := [.int (nI (k + 1))]) (rest := []) ⟨hx, hb, hml, hown, hts⟩ (c_X4_isMode l G [(cB, .byte), (cI, .int), (cZ, .boolean)] tc (wd a cB cI cZ (nI g) rn lv (nI r) lk ss rw sg (nI n) od aw tb md ql dr) (nI (k + 1))) (va_cwS 1 hts gX4_ask_X4_isMode rfl rfl rfl (by decide +kernel) ⟨by decide, by decide⟩) hK hZ hA hP hD hS rfl hl.1 rfl (Nat.le_of_ble_eq_true rfl) dX4_ask_23 ⟨Nat.zero_le _, Nat.zero_le _⟩ (fun v w' H locs hp hP hD hS => ?_)
  obtain ⟨rfl, rfl⟩ := hp
  have hP : va_P G vwCl (wd a cB cI cZ (nI g) rn lv (nI r) lk ss rw sg (nI n) od aw tb md ql dr) H := hP
  have hD : va_D A (wd a cB cI cZ (nI g) rn lv (nI r) lk ss rw sg (nI n) od aw tb md ql dr) := hD
  refine W.eq (g2 := F0 m 26 ls [.int (fw_b (px_isM (nI (k + 1))))]) rfl ?_
  refine lv_if_ne (tgt := 31) hx hb dX4_ask_26 (by decide) (fun c_26 => ?_) (fun c_26 => False.elim (by rw [px_isM_nI k hk8] at c_26; exact absurd c_26 (by decide)))
  have c_26 := fw_b1.mp c_26
  refine lv_aload_n hx hb dX4_ask_31 rfl (lv_at hl 0 rfl) ?_
  refine va_get (D := G) (ci := 4) (v := .ref (a 4)) (C := RX4) (T := TX4) (N := 4) hx hb hts hin4 hown hK hP 0 rfl rfl 3 (by decide) fl_33 (fun _ h9 => h9) rfl dX4_ask_32 ?_
  refine lv_iload_n hx hb dX4_ask_35 rfl (lv_at hl 1 rfl) ?_
  refine kV (As := [.int (nI x)]) (rest := []) ⟨hx, hb, hml, hown, hts⟩ (c_X2_contains l G cB cI cZ tc a (nI g) (nI r) rn lv lk ss rw sg od aw tb md ql dr n (nI x) hn6) (cwV 1 hts gX4_ask_X2_contains rfl rfl rfl (by decide +kernel) ⟨by decide, by decide⟩) hK hZ hA hP hD hS 4 2 rfl rfl rfl hl.1 rfl (Nat.le_of_ble_eq_true rfl) dX4_ask_36 ⟨Nat.zero_le _, Nat.zero_le _⟩ (fun v w' H locs hp hP hD hS => ?_)
  obtain ⟨rfl, rfl⟩ := hp
  have hP : va_P G vwCl (wd a cB cI cZ (nI g) rn lv (nI r) lk ss rw sg (nI n) od aw tb md ql dr) H := hP
  have hD : va_D A (wd a cB cI cZ (nI g) rn lv (nI r) lk ss rw sg (nI n) od aw tb md ql dr) := hD
  refine W.eq (g2 := F0 m 39 ls [.int (fw_b (px_pl n od (nI x)).isSome)]) rfl ?_
  refine lv_if_eq (tgt := 44) hx hb dX4_ask_39 (by decide) (fun c_39 => ?_) (fun c_39 => ?_)
  · have c_39 := fw_b0.mp c_39
    refine lv_aload_n hx hb dX4_ask_44 rfl (lv_at hl 0 rfl) ?_
    refine va_get (D := G) (ci := 4) (v := .ref (a 2)) (C := RX4) (T := TX4) (N := 4) hx hb hts hin4 hown hK hP 0 rfl rfl 1 (by decide) fl_19 (fun _ h9 => h9) rfl dX4_ask_45 ?_
    refine lv_iload_n hx hb dX4_ask_48 rfl (lv_at hl 1 rfl) ?_
    refine lv_iload_n hx hb dX4_ask_49 rfl (lv_at hl 3 rfl) ?_
    refine lv_iload hx hb dX4_ask_50 (lv_at hl 4 rfl) ?_
    refine kV (As := [.int (nI x), .int (nI y), .int (nI (k + 1))]) (rest := []) ⟨hx, hb, hml, hown, hts⟩ (c_X0_levelOf l G cB cI cZ tc a (nI g) (nI r) (nI n) rn lv lk ss rw sg od aw tb md ql dr x y k hx6 hy8 hk8) (cwV 3 hts gX4_ask_X0_levelOf rfl rfl rfl (by decide +kernel) ⟨by decide, by decide⟩) hK hZ hA hP hD hS 2 0 rfl rfl rfl hl.1 rfl (Nat.le_of_ble_eq_true rfl) dX4_ask_52 ⟨Nat.zero_le _, Nat.zero_le _⟩ (fun v w' H locs hp hP hD hS => ?_)
    obtain ⟨rfl, rfl⟩ := hp
    have hP : va_P G vwCl (wd a cB cI cZ (nI g) rn lv (nI r) lk ss rw sg (nI n) od aw tb md ql dr) H := hP
    have hD : va_D A (wd a cB cI cZ (nI g) rn lv (nI r) lk ss rw sg (nI n) od aw tb md ql dr) := hD
    refine W.eq (g2 := F0 m 55 ls [.int (lv (64 * x + 8 * y + k))]) rfl ?_
    refine lv_iconst (v := (-1)) hx hb dX4_ask_55 (by decide) ?_
    refine lv_icmp_eq (tgt := 61) hx hb dX4_ask_56 (by decide) (fun c_56 => ?_) (fun c_56 => ?_)
    · refine lv_aload_n hx hb dX4_ask_61 rfl (lv_at hl 0 rfl) ?_
      refine lv_iload_n hx hb dX4_ask_62 rfl (lv_at hl 1 rfl) ?_
      refine lv_iload_n hx hb dX4_ask_63 rfl (lv_at hl 3 rfl) ?_
      refine lv_iload hx hb dX4_ask_64 (lv_at hl 4 rfl) ?_
      refine lv_aload_n hx hb dX4_ask_66 rfl (lv_at hl 0 rfl) ?_
      refine va_get (D := G) (ci := 4) (v := .ref (a 4)) (C := RX4) (T := TX4) (N := 4) hx hb hts hin4 hown hK hP 0 rfl rfl 3 (by decide) fl_33 (fun _ h9 => h9) rfl dX4_ask_67 ?_
      refine kV (As := []) (rest := [.int (nI (k + 1)), .int (nI y), .int (nI x), .ref (a 0)]) ⟨hx, hb, hml, hown, hts⟩ (c_X2_size l G cB cI cZ tc a (nI g) (nI r) rn lv lk ss rw sg od aw tb md ql dr n) (cwV 0 hts gX4_ask_X2_size rfl rfl rfl (by decide +kernel) ⟨by decide, by decide⟩) hK hZ hA hP hD hS 4 2 rfl rfl rfl hl.1 rfl (Nat.le_of_ble_eq_true rfl) dX4_ask_70 ⟨Nat.zero_le _, Nat.zero_le _⟩ (fun v w' H locs hp hP hD hS => ?_)
      obtain ⟨rfl, rfl⟩ := hp
      have hP : va_P G vwCl (wd a cB cI cZ (nI g) rn lv (nI r) lk ss rw sg (nI n) od aw tb md ql dr) H := hP
      have hD : va_D A (wd a cB cI cZ (nI g) rn lv (nI r) lk ss rw sg (nI n) od aw tb md ql dr) := hD
      refine W.eq (g2 := F0 m 73 ls [.int (nI n), .int (nI (k + 1)), .int (nI y), .int (nI x), .ref (a 0)]) rfl ?_
      refine kV (As := [.int (nI x), .int (nI y), .int (nI (k + 1)), .int (nI n)]) (rest := []) ⟨hx, hb, hml, hown, hts⟩ (c_X4_inTheWay l G cB cI cZ tc a rn lv lk ss rw sg od aw tb md ql dr g r n x y (k + 1) n hx6 hy8 (by omega) hn6 hI0) (cwV 4 hts gX4_ask_X4_inTheWay rfl rfl rfl (by decide +kernel) ⟨by decide, by decide⟩) hK hZ hA hP hD hS 0 4 rfl rfl rfl hl.1 rfl (Nat.le_of_ble_eq_true rfl) dX4_ask_73 ⟨Nat.zero_le _, Nat.zero_le _⟩ (fun v w' H locs hp hP hD hS => ?_)
      obtain ⟨rfl, rfl⟩ := hp
      have hP : va_P G vwCl (wd a cB cI cZ (nI g) rn lv (nI r) lk ss rw sg (nI n) od aw tb md ql dr) H := hP
      have hD : va_D A (wd a cB cI cZ (nI g) rn lv (nI r) lk ss rw sg (nI n) od aw tb md ql dr) := hD
      refine W.eq (g2 := F0 m 76 ls [.int (px_way n lv od aw tb md dr x y (k + 1) n)]) rfl ?_
      refine lv_istore (lv' := [(5, .int (px_way n lv od aw tb md dr x y (k + 1) n)), (0, .ref (a 0)), (1, .int (nI x)), (2, .int (nI z)), (3, .int (nI y)), (4, .int (nI (k + 1)))]) hx hb dX4_ask_76 hl (by decide) rfl (fun ls hl => ?_)
      refine lv_iload hx hb dX4_ask_78 (lv_at hl 0 rfl) ?_
      refine lv_if_ne (tgt := 97) hx hb dX4_ask_80 (by decide) (fun c_80 => ?_) (fun c_80 => ?_)
      · refine lv_aload_n hx hb dX4_ask_97 rfl (lv_at hl 1 rfl) ?_
        refine lv_iload_n hx hb dX4_ask_98 rfl (lv_at hl 2 rfl) ?_
        refine lv_iload hx hb dX4_ask_99 (lv_at hl 0 rfl) ?_
        refine kV (As := [.int (nI x), .int (px_way n lv od aw tb md dr x y (k + 1) n)]) (rest := []) ⟨hx, hb, hml, hown, hts⟩ (c_X4_closesRing l G cB cI cZ tc a rn lv lk ss rw sg od aw tb md ql dr g r n (nI x) (px_way n lv od aw tb md dr x y (k + 1) n) hI0) (cwV 2 hts gX4_ask_X4_closesRing rfl rfl rfl (by decide +kernel) ⟨by decide, by decide⟩) hK hZ hA hP hD hS 0 4 rfl rfl rfl hl.1 rfl (Nat.le_of_ble_eq_true rfl) dX4_ask_101 ⟨Nat.zero_le _, Nat.zero_le _⟩ (fun v w' H locs hp hP hD hS => ?_)
        obtain ⟨rfl, rfl⟩ := hp
        have hP : va_P G vwCl (wd a cB cI cZ (nI g) rn lv (nI r) lk ss rw sg (nI n) od aw tb md ql dr) H := hP
        have hD : va_D A (wd a cB cI cZ (nI g) rn lv (nI r) lk ss rw sg (nI n) od aw tb md ql dr) := hD
        refine W.eq (g2 := F0 m 104 ls [.int (fw_b (px_cr (px_wo g n rn lv od aw tb md dr) (nI x) (px_way n lv od aw tb md dr x y (k + 1) n)))]) rfl ?_
        refine lv_if_eq (tgt := 109) hx hb dX4_ask_104 (by decide) (fun c_104 => ?_) (fun c_104 => ?_)
        · have c_104 := fw_b0.mp c_104
          refine lv_aload_n hx hb dX4_ask_109 rfl (lv_at hl 1 rfl) ?_
          refine va_get (D := G) (ci := 4) (v := .ref (a 4)) (C := RX4) (T := TX4) (N := 4) hx hb hts hin4 hown hK hP 0 rfl rfl 3 (by decide) fl_33 (fun _ h9 => h9) rfl dX4_ask_110 ?_
          refine lv_iload_n hx hb dX4_ask_113 rfl (lv_at hl 2 rfl) ?_
          refine lv_iload_n hx hb dX4_ask_114 rfl (lv_at hl 3 rfl) ?_
          refine lv_iload_n hx hb dX4_ask_115 rfl (lv_at hl 4 rfl) ?_
          refine lv_iload hx hb dX4_ask_116 (lv_at hl 5 rfl) ?_
          refine kV (As := [.int (nI x), .int (nI z), .int (nI y), .int (nI (k + 1))]) (rest := []) ⟨hx, hb, hml, hown, hts⟩ (c_X2_addForTable l G cB cI cZ tc a (nI g) (nI r) rn lv lk ss rw sg od aw tb md ql dr n x (nI z) (nI y) (nI (k + 1)) (hn c_39) hx6) (cwV 4 hts gX4_ask_X2_addForTable rfl rfl rfl (by decide +kernel) ⟨by decide, by decide⟩) hK hZ hA hP hD hS 4 2 rfl rfl rfl hl.1 rfl (Nat.le_of_ble_eq_true rfl) dX4_ask_118 ⟨Nat.zero_le _, Nat.zero_le _⟩ (fun v w' H locs hp hP hD hS => ?_)
          obtain ⟨rfl, rfl⟩ := hp
          have hP : va_P G vwCl (wd a cB cI cZ (nI g) rn lv (nI r) lk ss rw sg (nI (n + 1)) (upd od n (nI x)) (upd aw x 0) (upd tb x (nI y)) (upd md x (nI (k + 1))) (upd ql x (nI z)) (upd dr x 0)) H := hP
          have hD : va_D A (wd a cB cI cZ (nI g) rn lv (nI r) lk ss rw sg (nI (n + 1)) (upd od n (nI x)) (upd aw x 0) (upd tb x (nI y)) (upd md x (nI (k + 1))) (upd ql x (nI z)) (upd dr x 0)) := hD
          refine W.eq (g2 := F0 m 121 ls []) rfl ?_
          refine lv_iconst (v := 1) hx hb dX4_ask_121 (by decide) ?_
          exact hri _ rfl 1 _ _ _ _ _ (rfl) (by rw [if_neg (show ¬ (px_pl n od (nI x)).isSome = true by rw [c_39]; decide), if_neg (Decidable.not_not.mpr c_56), if_neg c_80, if_neg (show ¬ px_cr (px_wo g n rn lv od aw tb md dr) (nI x) (px_way n lv od aw tb md dr x y (k + 1) n) = true by rw [c_104]; decide)]; exact ⟨rfl, rfl⟩) hP hD hS dX4_ask_122
        · have c_104 := fw_b1.mp c_104
          refine lv_iconst (v := 2) hx hb dX4_ask_107 (by decide) ?_
          exact hri _ rfl 2 _ _ _ _ _ (rfl) (by rw [if_neg (show ¬ (px_pl n od (nI x)).isSome = true by rw [c_39]; decide), if_neg (Decidable.not_not.mpr c_56), if_neg c_80, if_pos c_104]; exact ⟨rfl, rfl⟩) hP hD hS dX4_ask_108
      · refine lv_aload_n hx hb dX4_ask_83 rfl (lv_at hl 1 rfl) ?_
        refine va_get (D := G) (ci := 4) (v := .ref (a 2)) (C := RX4) (T := TX4) (N := 4) hx hb hts hin4 hown hK hP 0 rfl rfl 1 (by decide) fl_19 (fun _ h9 => h9) rfl dX4_ask_84 ?_
        refine lv_iload_n hx hb dX4_ask_87 rfl (lv_at hl 2 rfl) ?_
        refine lv_iload_n hx hb dX4_ask_88 rfl (lv_at hl 3 rfl) ?_
        refine lv_iload_n hx hb dX4_ask_89 rfl (lv_at hl 4 rfl) ?_
        refine lv_iload hx hb dX4_ask_90 (lv_at hl 5 rfl) ?_
        refine kV (As := [.int (nI x), .int (nI z), .int (nI y), .int (nI (k + 1))]) (rest := []) ⟨hx, hb, hml, hown, hts⟩ (c_X0_take l G cB cI cZ tc a (nI g) (nI r) (nI n) rn lv lk ss rw sg od aw tb md ql dr x y k z hx6 hy8 hk8 hz8) (cwV 4 hts gX4_ask_X0_take rfl rfl rfl (by decide +kernel) ⟨by decide, by decide⟩) hK hZ hA hP hD hS 2 0 rfl rfl rfl hl.1 rfl (Nat.le_of_ble_eq_true rfl) dX4_ask_92 ⟨Nat.zero_le _, Nat.zero_le _⟩ (fun v w' H locs hp hP hD hS => ?_)
        obtain ⟨rfl, rfl⟩ := hp
        have hP : va_P G vwCl (wd a cB cI cZ (nI g) rn (upd lv (64 * x + 8 * y + k) (nI z)) (nI r) lk ss rw sg (nI n) od aw tb md ql dr) H := hP
        have hD : va_D A (wd a cB cI cZ (nI g) rn (upd lv (64 * x + 8 * y + k) (nI z)) (nI r) lk ss rw sg (nI n) od aw tb md ql dr) := hD
        refine W.eq (g2 := F0 m 95 ls []) rfl ?_
        refine lv_iconst (v := 0) hx hb dX4_ask_95 (by decide) ?_
        exact hri _ rfl 0 _ _ _ _ _ (rfl) (by rw [if_neg (show ¬ (px_pl n od (nI x)).isSome = true by rw [c_39]; decide), if_neg (Decidable.not_not.mpr c_56), if_pos c_80]; exact ⟨rfl, rfl⟩) hP hD hS dX4_ask_96
    · refine lv_iconst (v := 0) hx hb dX4_ask_59 (by decide) ?_
      exact hri _ rfl 0 _ _ _ _ _ (rfl) (by rw [if_neg (show ¬ (px_pl n od (nI x)).isSome = true by rw [c_39]; decide), if_pos c_56]; exact ⟨rfl, rfl⟩) hP hD hS dX4_ask_60
  · have c_39 := fw_b1.mp c_39
    refine lv_iconst (v := (-1)) hx hb dX4_ask_42 (by decide) ?_
    exact hri _ rfl (-1) _ _ _ _ _ (rfl) (by rw [if_pos c_39]; exact ⟨rfl, rfl⟩) hP hD hS dX4_ask_43

abbrev rmX4_lock : Room := { frames := 2, cells := 0, slots := 0, locals := 48 }
set_option maxHeartbeats 4000000 in
set_option maxRecDepth 100000 in
theorem c_lock_no (l : Launch) (G : va_G) (cB cI cZ : ClassId) (tc : Nat) (a : Nat → Nat) (rn lv lk ss rw sg od aw tb md ql dr : Nat → Int32) (g : Nat) (r : Nat) (n : Nat) (x1 : Int32) (x2 : Int32) (x3 : Int32) (hg : g < 4000) (h : (!decide (px_run g rn x1 = -1) && px_isR x2 && !decide (x3 < 1) && decide (x3 ≤ 2)) = false) : KC l yX4_lock wsX4_lock rmX4_lock G [(cB, .byte), (cI, .int), (cZ, .boolean)] tc [.ref (a 0), .int x1, .int x2, .int x3] (wd a cB cI cZ (nI g) rn lv (nI r) lk ss rw sg (nI n) od aw tb md ql dr) (fun v w' => v = some (.int (-1)) ∧ w' = (wd a cB cI cZ (nI g) rn lv (nI r) lk ss rw sg (nI n) od aw tb md ql dr)) := by
  refine KC.of (cc := cX4_lock) (maxL := 6) (ret := some .int) (by decide) rfl (Nat.le_of_ble_eq_true rfl) ?_
  intro p e s m below meth c args A Q ls hx hb hml hown hts hK hZ hA hP hD hS hl hri hrv
  have hown : s.vm.findClass RX4 = some m.cls := hown
  have hl : lv_has ls 6 [(0, .ref (a 0)), (1, .int x1), (2, .int x2), (3, .int x3)] := hl
  have fl_10 := hts (.fieldLink RX4 10 "LockDesk" "numbers" "LLockDesk$Numbers;") (by decide +kernel)
  have fl_26 := hts (.fieldLink RX4 26 "LockDesk" "rowLocks" "LLockDesk$RowLocks;") (by decide +kernel)
  have fl_33 := hts (.fieldLink RX4 33 "LockDesk" "queue" "LLockDesk$Queue;") (by decide +kernel)
  have hin4 : ∀ w ∈ wsX40, w ∈ wsX4_lock := by decide +kernel
  refine lv_aload_n hx hb dX4_lock_0 rfl (lv_at hl 0 rfl) ?_
  refine va_get (D := G) (ci := 4) (v := .ref (a 1)) (C := RX4) (T := TX4) (N := 4) hx hb hts hin4 hown hK hP 0 rfl rfl 0 (by decide) fl_10 (fun _ h9 => h9) rfl dX4_lock_1 ?_
  refine lv_iload_n hx hb dX4_lock_4 rfl (lv_at hl 1 rfl) ?_
  refine kV (As := [.int x1]) (rest := []) ⟨hx, hb, hml, hown, hts⟩ (c_X1_runnerOf l G cB cI cZ tc a (nI r) (nI n) rn lv lk ss rw sg od aw tb md ql dr g x1 hg) (cwV 1 hts gX4_lock_X1_runnerOf rfl rfl rfl (by decide +kernel) ⟨by decide, by decide⟩) hK hZ hA hP hD hS 1 1 rfl rfl rfl hl.1 rfl (Nat.le_of_ble_eq_true rfl) dX4_lock_5 ⟨Nat.zero_le _, Nat.zero_le _⟩ (fun v w' H locs hp hP hD hS => ?_)
  obtain ⟨rfl, rfl⟩ := hp
  have hP : va_P G vwCl (wd a cB cI cZ (nI g) rn lv (nI r) lk ss rw sg (nI n) od aw tb md ql dr) H := hP
  have hD : va_D A (wd a cB cI cZ (nI g) rn lv (nI r) lk ss rw sg (nI n) od aw tb md ql dr) := hD
  refine W.eq (g2 := F0 m 8 ls [.int (px_run g rn x1)]) rfl ?_
  refine lv_istore (lv' := [(4, .int (px_run g rn x1)), (0, .ref (a 0)), (1, .int x1), (2, .int x2), (3, .int x3)]) hx hb dX4_lock_8 hl (by decide) rfl (fun ls hl => ?_)
  refine lv_iload hx hb dX4_lock_10 (lv_at hl 0 rfl) ?_
  refine lv_iconst (v := (-1)) hx hb dX4_lock_12 (by decide) ?_
  refine lv_icmp_eq (tgt := 33) hx hb dX4_lock_13 (by decide) (fun c_13 => ?_) (fun c_13 => ?_)
  · refine lv_iconst (v := (-1)) hx hb dX4_lock_33 (by decide) ?_
    exact hri _ rfl (-1) _ _ _ _ _ (rfl) (⟨rfl, rfl⟩) hP hD hS dX4_lock_34
  · refine lv_iload_n hx hb dX4_lock_16 rfl (lv_at hl 3 rfl) ?_
    refine kS (As := [.int x2]) (rest := []) ⟨hx, hb, hml, hown, hts⟩ (c_X4_isRow l G [(cB, .byte), (cI, .int), (cZ, .boolean)] tc (wd a cB cI cZ (nI g) rn lv (nI r) lk ss rw sg (nI n) od aw tb md ql dr) x2) (va_cwS 1 hts gX4_lock_X4_isRow rfl rfl rfl (by decide +kernel) ⟨by decide, by decide⟩) hK hZ hA hP hD hS rfl hl.1 rfl (Nat.le_of_ble_eq_true rfl) dX4_lock_17 ⟨Nat.zero_le _, Nat.zero_le _⟩ (fun v w' H locs hp hP hD hS => ?_)
    obtain ⟨rfl, rfl⟩ := hp
    have hP : va_P G vwCl (wd a cB cI cZ (nI g) rn lv (nI r) lk ss rw sg (nI n) od aw tb md ql dr) H := hP
    have hD : va_D A (wd a cB cI cZ (nI g) rn lv (nI r) lk ss rw sg (nI n) od aw tb md ql dr) := hD
    refine W.eq (g2 := F0 m 20 ls [.int (fw_b (px_isR x2))]) rfl ?_
    refine lv_if_eq (tgt := 33) hx hb dX4_lock_20 (by decide) (fun c_20 => ?_) (fun c_20 => ?_)
    · have c_20 := fw_b0.mp c_20
      refine lv_iconst (v := (-1)) hx hb dX4_lock_33 (by decide) ?_
      exact hri _ rfl (-1) _ _ _ _ _ (rfl) (⟨rfl, rfl⟩) hP hD hS dX4_lock_34
    · have c_20 := fw_b1.mp c_20
      refine lv_iload_n hx hb dX4_lock_23 rfl (lv_at hl 4 rfl) ?_
      refine lv_iconst (v := 1) hx hb dX4_lock_24 (by decide) ?_
      refine lv_icmp_lt (tgt := 33) hx hb dX4_lock_25 (by decide) (fun c_25 => ?_) (fun c_25 => ?_)
      · refine lv_iconst (v := (-1)) hx hb dX4_lock_33 (by decide) ?_
        exact hri _ rfl (-1) _ _ _ _ _ (rfl) (⟨rfl, rfl⟩) hP hD hS dX4_lock_34
      · refine lv_iload_n hx hb dX4_lock_28 rfl (lv_at hl 4 rfl) ?_
        refine lv_iconst (v := 2) hx hb dX4_lock_29 (by decide) ?_
        refine lv_icmp_le (tgt := 35) hx hb dX4_lock_30 (by decide) (fun c_30 => False.elim (by simp [c_13, c_20, c_25, c_30] at h)) (fun c_30 => ?_)
        refine lv_iconst (v := (-1)) hx hb dX4_lock_33 (by decide) ?_
        exact hri _ rfl (-1) _ _ _ _ _ (rfl) (⟨rfl, rfl⟩) hP hD hS dX4_lock_34

set_option maxHeartbeats 4000000 in
set_option maxRecDepth 100000 in
theorem c_lock_ok (l : Launch) (G : va_G) (cB cI cZ : ClassId) (tc : Nat) (a : Nat → Nat) (rn lv lk ss rw sg od aw tb md ql dr : Nat → Int32) (g : Nat) (r : Nat) (n : Nat) (k : Nat) (x2 : Int32) (x3 : Int32) (hg : g < 4000) (hn6 : n ≤ 6) (hr5 : r < 512) (hk1 : 1 ≤ k) (hk2 : k ≤ g) (h : ¬ rn k = -1) (hrow : px_isR x2 = true) (h1 : ¬ x3 < 1) (h2 : x3 ≤ 2) : KC l yX4_lock wsX4_lock rmX4_lock G [(cB, .byte), (cI, .int), (cZ, .boolean)] tc [.ref (a 0), .int (nI k), .int x2, .int x3] (wd a cB cI cZ (nI g) rn lv (nI r) lk ss rw sg (nI n) od aw tb md ql dr) (fun v w' => if (px_pl n od (rn k)).isSome = true then v = some (.int (-1)) ∧ w' = (wd a cB cI cZ (nI g) rn lv (nI r) lk ss rw sg (nI n) od aw tb md ql dr) else if px_any (px_sfP ss rw sg (rn k) x2 x3) r = true then v = some (.int 0) ∧ w' = (wd a cB cI cZ (nI g) rn lv (nI r) lk ss rw sg (nI n) od aw tb md ql dr) else if ¬ px_lc r lk ss rw sg (rn k) x2 x3 = -1 then v = some (.int (px_lc r lk ss rw sg (rn k) x2 x3)) ∧ w' = (wd a cB cI cZ (nI g) rn lv (nI r) lk ss rw sg (nI n) od aw tb md ql dr) else v = some (.int 0) ∧ ((∃ i, i < r ∧ px_foundAt lk rw (nI k) x2 i ∧ w' = (wd a cB cI cZ (nI g) rn lv (nI r) lk ss rw (upd sg i x3) (nI n) od aw tb md ql dr)) ∨ (∃ p, p ≤ r ∧ px_placeAt r lk rw (nI k) x2 p ∧ w' = (wd a cB cI cZ (nI g) rn lv (nI (r + 1)) ((px_put p (nI k) (rn k) x2 x3 (px_sh r p (lk, ss, rw, sg))).1) ((px_put p (nI k) (rn k) x2 x3 (px_sh r p (lk, ss, rw, sg))).2.1) ((px_put p (nI k) (rn k) x2 x3 (px_sh r p (lk, ss, rw, sg))).2.2.1) ((px_put p (nI k) (rn k) x2 x3 (px_sh r p (lk, ss, rw, sg))).2.2.2) (nI n) od aw tb md ql dr)))) := by
  refine KC.of (cc := cX4_lock) (maxL := 6) (ret := some .int) (by decide) rfl (Nat.le_of_ble_eq_true rfl) ?_
  intro p e s m below meth c args A Q ls hx hb hml hown hts hK hZ hA hP hD hS hl hri hrv
  have hown : s.vm.findClass RX4 = some m.cls := hown
  have hl : lv_has ls 6 [(0, .ref (a 0)), (1, .int (nI k)), (2, .int x2), (3, .int x3)] := hl
  have fl_10 := hts (.fieldLink RX4 10 "LockDesk" "numbers" "LLockDesk$Numbers;") (by decide +kernel)
  have fl_26 := hts (.fieldLink RX4 26 "LockDesk" "rowLocks" "LLockDesk$RowLocks;") (by decide +kernel)
  have fl_33 := hts (.fieldLink RX4 33 "LockDesk" "queue" "LLockDesk$Queue;") (by decide +kernel)
  have hin4 : ∀ w ∈ wsX40, w ∈ wsX4_lock := by decide +kernel
  refine lv_aload_n hx hb dX4_lock_0 rfl (lv_at hl 0 rfl) ?_
  refine va_get (D := G) (ci := 4) (v := .ref (a 1)) (C := RX4) (T := TX4) (N := 4) hx hb hts hin4 hown hK hP 0 rfl rfl 0 (by decide) fl_10 (fun _ h9 => h9) rfl dX4_lock_1 ?_
  refine lv_iload_n hx hb dX4_lock_4 rfl (lv_at hl 1 rfl) ?_
  refine kV (As := [.int (nI k)]) (rest := []) ⟨hx, hb, hml, hown, hts⟩ (c_X1_runnerOf l G cB cI cZ tc a (nI r) (nI n) rn lv lk ss rw sg od aw tb md ql dr g (nI k) hg) (cwV 1 hts gX4_lock_X1_runnerOf rfl rfl rfl (by decide +kernel) ⟨by decide, by decide⟩) hK hZ hA hP hD hS 1 1 rfl rfl rfl hl.1 rfl (Nat.le_of_ble_eq_true rfl) dX4_lock_5 ⟨Nat.zero_le _, Nat.zero_le _⟩ (fun v w' H locs hp hP hD hS => ?_)
  obtain ⟨rfl, rfl⟩ := hp
  rw [px_run_nI (by omega) hk1 hk2]
  have hP : va_P G vwCl (wd a cB cI cZ (nI g) rn lv (nI r) lk ss rw sg (nI n) od aw tb md ql dr) H := hP
  have hD : va_D A (wd a cB cI cZ (nI g) rn lv (nI r) lk ss rw sg (nI n) od aw tb md ql dr) := hD
  refine W.eq (g2 := F0 m 8 ls [.int (rn k)]) rfl ?_
  refine lv_istore (lv' := [(4, .int (rn k)), (0, .ref (a 0)), (1, .int (nI k)), (2, .int x2), (3, .int x3)]) hx hb dX4_lock_8 hl (by decide) rfl (fun ls hl => ?_)
  refine lv_iload hx hb dX4_lock_10 (lv_at hl 0 rfl) ?_
  refine lv_iconst (v := (-1)) hx hb dX4_lock_12 (by decide) ?_
  refine lv_icmp_eq (tgt := 33) hx hb dX4_lock_13 (by decide) (fun c_13 => False.elim (h c_13)) (fun c_13 => ?_)
  refine lv_iload_n hx hb dX4_lock_16 rfl (lv_at hl 3 rfl) ?_
  refine kS (As := [.int x2]) (rest := []) ⟨hx, hb, hml, hown, hts⟩ (c_X4_isRow l G [(cB, .byte), (cI, .int), (cZ, .boolean)] tc (wd a cB cI cZ (nI g) rn lv (nI r) lk ss rw sg (nI n) od aw tb md ql dr) x2) (va_cwS 1 hts gX4_lock_X4_isRow rfl rfl rfl (by decide +kernel) ⟨by decide, by decide⟩) hK hZ hA hP hD hS rfl hl.1 rfl (Nat.le_of_ble_eq_true rfl) dX4_lock_17 ⟨Nat.zero_le _, Nat.zero_le _⟩ (fun v w' H locs hp hP hD hS => ?_)
  obtain ⟨rfl, rfl⟩ := hp
  have hP : va_P G vwCl (wd a cB cI cZ (nI g) rn lv (nI r) lk ss rw sg (nI n) od aw tb md ql dr) H := hP
  have hD : va_D A (wd a cB cI cZ (nI g) rn lv (nI r) lk ss rw sg (nI n) od aw tb md ql dr) := hD
  refine W.eq (g2 := F0 m 20 ls [.int (fw_b (px_isR x2))]) rfl ?_
  refine lv_if_eq (tgt := 33) hx hb dX4_lock_20 (by decide) (fun c_20 => False.elim (by rw [hrow] at c_20; exact absurd c_20 (by decide))) (fun c_20 => ?_)
  have c_20 := fw_b1.mp c_20
  refine lv_iload_n hx hb dX4_lock_23 rfl (lv_at hl 4 rfl) ?_
  refine lv_iconst (v := 1) hx hb dX4_lock_24 (by decide) ?_
  refine lv_icmp_lt (tgt := 33) hx hb dX4_lock_25 (by decide) (fun c_25 => False.elim (h1 c_25)) (fun c_25 => ?_)
  refine lv_iload_n hx hb dX4_lock_28 rfl (lv_at hl 4 rfl) ?_
  refine lv_iconst (v := 2) hx hb dX4_lock_29 (by decide) ?_
  refine lv_icmp_le (tgt := 35) hx hb dX4_lock_30 (by decide) (fun c_30 => ?_) (fun c_30 => False.elim (c_30 h2))
  refine lv_aload_n hx hb dX4_lock_35 rfl (lv_at hl 1 rfl) ?_
  refine va_get (D := G) (ci := 4) (v := .ref (a 4)) (C := RX4) (T := TX4) (N := 4) hx hb hts hin4 hown hK hP 0 rfl rfl 3 (by decide) fl_33 (fun _ h9 => h9) rfl dX4_lock_36 ?_
  refine lv_iload hx hb dX4_lock_39 (lv_at hl 0 rfl) ?_
  refine kV (As := [.int (rn k)]) (rest := []) ⟨hx, hb, hml, hown, hts⟩ (c_X2_contains l G cB cI cZ tc a (nI g) (nI r) rn lv lk ss rw sg od aw tb md ql dr n (rn k) hn6) (cwV 1 hts gX4_lock_X2_contains rfl rfl rfl (by decide +kernel) ⟨by decide, by decide⟩) hK hZ hA hP hD hS 4 2 rfl rfl rfl hl.1 rfl (Nat.le_of_ble_eq_true rfl) dX4_lock_41 ⟨Nat.zero_le _, Nat.zero_le _⟩ (fun v w' H locs hp hP hD hS => ?_)
  obtain ⟨rfl, rfl⟩ := hp
  have hP : va_P G vwCl (wd a cB cI cZ (nI g) rn lv (nI r) lk ss rw sg (nI n) od aw tb md ql dr) H := hP
  have hD : va_D A (wd a cB cI cZ (nI g) rn lv (nI r) lk ss rw sg (nI n) od aw tb md ql dr) := hD
  refine W.eq (g2 := F0 m 44 ls [.int (fw_b (px_pl n od (rn k)).isSome)]) rfl ?_
  refine lv_if_eq (tgt := 49) hx hb dX4_lock_44 (by decide) (fun c_44 => ?_) (fun c_44 => ?_)
  · have c_44 := fw_b0.mp c_44
    refine lv_aload_n hx hb dX4_lock_49 rfl (lv_at hl 1 rfl) ?_
    refine va_get (D := G) (ci := 4) (v := .ref (a 3)) (C := RX4) (T := TX4) (N := 4) hx hb hts hin4 hown hK hP 0 rfl rfl 2 (by decide) fl_26 (fun _ h9 => h9) rfl dX4_lock_50 ?_
    refine lv_iload hx hb dX4_lock_53 (lv_at hl 0 rfl) ?_
    refine lv_iload_n hx hb dX4_lock_55 rfl (lv_at hl 3 rfl) ?_
    refine lv_iload_n hx hb dX4_lock_56 rfl (lv_at hl 4 rfl) ?_
    refine kV (As := [.int (rn k), .int x2, .int x3]) (rest := []) ⟨hx, hb, hml, hown, hts⟩ (c_X3_suffices l G cB cI cZ tc a (nI g) (nI n) rn lv lk ss rw sg od aw tb md ql dr r (rn k) x2 x3 (by omega)) (cwV 3 hts gX4_lock_X3_suffices rfl rfl rfl (by decide +kernel) ⟨by decide, by decide⟩) hK hZ hA hP hD hS 3 3 rfl rfl rfl hl.1 rfl (Nat.le_of_ble_eq_true rfl) dX4_lock_57 ⟨Nat.zero_le _, Nat.zero_le _⟩ (fun v w' H locs hp hP hD hS => ?_)
    obtain ⟨rfl, rfl⟩ := hp
    have hP : va_P G vwCl (wd a cB cI cZ (nI g) rn lv (nI r) lk ss rw sg (nI n) od aw tb md ql dr) H := hP
    have hD : va_D A (wd a cB cI cZ (nI g) rn lv (nI r) lk ss rw sg (nI n) od aw tb md ql dr) := hD
    refine W.eq (g2 := F0 m 60 ls [.int (fw_b (px_any (px_sfP ss rw sg (rn k) x2 x3) r))]) rfl ?_
    refine lv_if_eq (tgt := 65) hx hb dX4_lock_60 (by decide) (fun c_60 => ?_) (fun c_60 => ?_)
    · have c_60 := fw_b0.mp c_60
      refine lv_aload_n hx hb dX4_lock_65 rfl (lv_at hl 1 rfl) ?_
      refine va_get (D := G) (ci := 4) (v := .ref (a 3)) (C := RX4) (T := TX4) (N := 4) hx hb hts hin4 hown hK hP 0 rfl rfl 2 (by decide) fl_26 (fun _ h9 => h9) rfl dX4_lock_66 ?_
      refine lv_iload hx hb dX4_lock_69 (lv_at hl 0 rfl) ?_
      refine lv_iload_n hx hb dX4_lock_71 rfl (lv_at hl 3 rfl) ?_
      refine lv_iload_n hx hb dX4_lock_72 rfl (lv_at hl 4 rfl) ?_
      refine kV (As := [.int (rn k), .int x2, .int x3]) (rest := []) ⟨hx, hb, hml, hown, hts⟩ (c_X3_leastInConflict l G cB cI cZ tc a (nI g) (nI n) rn lv lk ss rw sg od aw tb md ql dr r (rn k) x2 x3 (by omega)) (cwV 3 hts gX4_lock_X3_leastInConflict rfl rfl rfl (by decide +kernel) ⟨by decide, by decide⟩) hK hZ hA hP hD hS 3 3 rfl rfl rfl hl.1 rfl (Nat.le_of_ble_eq_true rfl) dX4_lock_73 ⟨Nat.zero_le _, Nat.zero_le _⟩ (fun v w' H locs hp hP hD hS => ?_)
      obtain ⟨rfl, rfl⟩ := hp
      have hP : va_P G vwCl (wd a cB cI cZ (nI g) rn lv (nI r) lk ss rw sg (nI n) od aw tb md ql dr) H := hP
      have hD : va_D A (wd a cB cI cZ (nI g) rn lv (nI r) lk ss rw sg (nI n) od aw tb md ql dr) := hD
      refine W.eq (g2 := F0 m 76 ls [.int (px_lc r lk ss rw sg (rn k) x2 x3)]) rfl ?_
      refine lv_istore (lv' := [(5, .int (px_lc r lk ss rw sg (rn k) x2 x3)), (4, .int (rn k)), (0, .ref (a 0)), (1, .int (nI k)), (2, .int x2), (3, .int x3)]) hx hb dX4_lock_76 hl (by decide) rfl (fun ls hl => ?_)
      refine lv_iload hx hb dX4_lock_78 (lv_at hl 0 rfl) ?_
      refine lv_iconst (v := (-1)) hx hb dX4_lock_80 (by decide) ?_
      refine lv_icmp_eq (tgt := 87) hx hb dX4_lock_81 (by decide) (fun c_81 => ?_) (fun c_81 => ?_)
      · refine lv_aload_n hx hb dX4_lock_87 rfl (lv_at hl 2 rfl) ?_
        refine va_get (D := G) (ci := 4) (v := .ref (a 3)) (C := RX4) (T := TX4) (N := 4) hx hb hts hin4 hown hK hP 0 rfl rfl 2 (by decide) fl_26 (fun _ h9 => h9) rfl dX4_lock_88 ?_
        refine lv_iload_n hx hb dX4_lock_91 rfl (lv_at hl 3 rfl) ?_
        refine lv_iload hx hb dX4_lock_92 (lv_at hl 1 rfl) ?_
        refine lv_iload_n hx hb dX4_lock_94 rfl (lv_at hl 4 rfl) ?_
        refine lv_iload_n hx hb dX4_lock_95 rfl (lv_at hl 5 rfl) ?_
        refine kV (As := [.int (nI k), .int (rn k), .int x2, .int x3]) (rest := []) ⟨hx, hb, hml, hown, hts⟩ (c_X3_note l G cB cI cZ tc a (nI g) (nI n) rn lv lk ss rw sg od aw tb md ql dr r (nI k) (rn k) x2 x3 hr5) (cwV 4 hts gX4_lock_X3_note rfl rfl rfl (by decide +kernel) ⟨by decide, by decide⟩) hK hZ hA hP hD hS 3 3 rfl rfl rfl hl.1 rfl (Nat.le_of_ble_eq_true rfl) dX4_lock_96 ⟨Nat.zero_le _, Nat.zero_le _⟩ (fun v w' H locs hp hP hD hS => ?_)
        obtain ⟨rfl, hnote⟩ := hp
        refine W.eq (g2 := F0 m 99 ls [.int 1]) rfl ?_
        refine lv_if_eq (tgt := 106) hx hb dX4_lock_99 (by decide) (fun c_99 => False.elim (absurd c_99 (by decide))) (fun c_99 => ?_)
        refine lv_iconst (v := 0) hx hb dX4_lock_102 (by decide) ?_
        refine lv_goto (tgt := 107) hx hb dX4_lock_103 (by decide) ?_
        exact hri _ rfl 0 _ _ _ _ _ (rfl) (by rw [if_neg (show ¬ (px_pl n od (rn k)).isSome = true by rw [c_44]; decide), if_neg (show ¬ px_any (px_sfP ss rw sg (rn k) x2 x3) r = true by rw [c_60]; decide), if_neg (Decidable.not_not.mpr c_81)]; exact ⟨rfl, hnote⟩) hP hD hS dX4_lock_107
      · refine lv_iload hx hb dX4_lock_84 (lv_at hl 0 rfl) ?_
        exact hri _ rfl (px_lc r lk ss rw sg (rn k) x2 x3) _ _ _ _ _ (rfl) (by rw [if_neg (show ¬ (px_pl n od (rn k)).isSome = true by rw [c_44]; decide), if_neg (show ¬ px_any (px_sfP ss rw sg (rn k) x2 x3) r = true by rw [c_60]; decide), if_pos c_81]; exact ⟨rfl, rfl⟩) hP hD hS dX4_lock_86
    · have c_60 := fw_b1.mp c_60
      refine lv_iconst (v := 0) hx hb dX4_lock_63 (by decide) ?_
      exact hri _ rfl 0 _ _ _ _ _ (rfl) (by rw [if_neg (show ¬ (px_pl n od (rn k)).isSome = true by rw [c_44]; decide), if_pos c_60]; exact ⟨rfl, rfl⟩) hP hD hS dX4_lock_64
  · have c_44 := fw_b1.mp c_44
    refine lv_iconst (v := (-1)) hx hb dX4_lock_47 (by decide) ?_
    exact hri _ rfl (-1) _ _ _ _ _ (rfl) (by rw [if_pos c_44]; exact ⟨rfl, rfl⟩) hP hD hS dX4_lock_48

abbrev rmX4_await : Room := { frames := 6, cells := 0, slots := 0, locals := 142 }
set_option maxHeartbeats 4000000 in
set_option maxRecDepth 100000 in
theorem c_await_no (l : Launch) (G : va_G) (cB cI cZ : ClassId) (tc : Nat) (a : Nat → Nat) (rn lv lk ss rw sg od aw tb md ql dr : Nat → Int32) (g : Nat) (r : Nat) (n : Nat) (x1 : Int32) (x2 : Int32) (hn6 : n ≤ 6) (h : (px_isS x1 && px_was g x2 && !(px_pl n od x1).isSome) = false) : KC l yX4_await wsX4_await rmX4_await G [(cB, .byte), (cI, .int), (cZ, .boolean)] tc [.ref (a 0), .int x1, .int x2] (wd a cB cI cZ (nI g) rn lv (nI r) lk ss rw sg (nI n) od aw tb md ql dr) (fun v w' => v = some (.int (-1)) ∧ w' = (wd a cB cI cZ (nI g) rn lv (nI r) lk ss rw sg (nI n) od aw tb md ql dr)) := by
  refine KC.of (cc := cX4_await) (maxL := 4) (ret := some .int) (by decide) rfl (Nat.le_of_ble_eq_true rfl) ?_
  intro p e s m below meth c args A Q ls hx hb hml hown hts hK hZ hA hP hD hS hl hri hrv
  have hown : s.vm.findClass RX4 = some m.cls := hown
  have hl : lv_has ls 4 [(0, .ref (a 0)), (1, .int x1), (2, .int x2)] := hl
  have fl_10 := hts (.fieldLink RX4 10 "LockDesk" "numbers" "LLockDesk$Numbers;") (by decide +kernel)
  have fl_33 := hts (.fieldLink RX4 33 "LockDesk" "queue" "LLockDesk$Queue;") (by decide +kernel)
  have hin4 : ∀ w ∈ wsX40, w ∈ wsX4_await := by decide +kernel
  refine lv_iload_n hx hb dX4_await_0 rfl (lv_at hl 1 rfl) ?_
  refine kS (As := [.int x1]) (rest := []) ⟨hx, hb, hml, hown, hts⟩ (c_X4_isSession l G [(cB, .byte), (cI, .int), (cZ, .boolean)] tc (wd a cB cI cZ (nI g) rn lv (nI r) lk ss rw sg (nI n) od aw tb md ql dr) x1) (va_cwS 1 hts gX4_await_X4_isSession rfl rfl rfl (by decide +kernel) ⟨by decide, by decide⟩) hK hZ hA hP hD hS rfl hl.1 rfl (Nat.le_of_ble_eq_true rfl) dX4_await_1 ⟨Nat.zero_le _, Nat.zero_le _⟩ (fun v w' H locs hp hP hD hS => ?_)
  obtain ⟨rfl, rfl⟩ := hp
  have hP : va_P G vwCl (wd a cB cI cZ (nI g) rn lv (nI r) lk ss rw sg (nI n) od aw tb md ql dr) H := hP
  have hD : va_D A (wd a cB cI cZ (nI g) rn lv (nI r) lk ss rw sg (nI n) od aw tb md ql dr) := hD
  refine W.eq (g2 := F0 m 4 ls [.int (fw_b (px_isS x1))]) rfl ?_
  refine lv_if_eq (tgt := 29) hx hb dX4_await_4 (by decide) (fun c_4 => ?_) (fun c_4 => ?_)
  · have c_4 := fw_b0.mp c_4
    refine lv_iconst (v := (-1)) hx hb dX4_await_29 (by decide) ?_
    exact hri _ rfl (-1) _ _ _ _ _ (rfl) (⟨rfl, rfl⟩) hP hD hS dX4_await_30
  · have c_4 := fw_b1.mp c_4
    refine lv_aload_n hx hb dX4_await_7 rfl (lv_at hl 0 rfl) ?_
    refine va_get (D := G) (ci := 4) (v := .ref (a 1)) (C := RX4) (T := TX4) (N := 4) hx hb hts hin4 hown hK hP 0 rfl rfl 0 (by decide) fl_10 (fun _ h9 => h9) rfl dX4_await_8 ?_
    refine lv_iload_n hx hb dX4_await_11 rfl (lv_at hl 2 rfl) ?_
    refine kV (As := [.int x2]) (rest := []) ⟨hx, hb, hml, hown, hts⟩ (c_X1_wasGiven l G cB cI cZ tc a (nI r) (nI n) rn lv lk ss rw sg od aw tb md ql dr g x2) (cwV 1 hts gX4_await_X1_wasGiven rfl rfl rfl (by decide +kernel) ⟨by decide, by decide⟩) hK hZ hA hP hD hS 1 1 rfl rfl rfl hl.1 rfl (Nat.le_of_ble_eq_true rfl) dX4_await_12 ⟨Nat.zero_le _, Nat.zero_le _⟩ (fun v w' H locs hp hP hD hS => ?_)
    obtain ⟨rfl, rfl⟩ := hp
    have hP : va_P G vwCl (wd a cB cI cZ (nI g) rn lv (nI r) lk ss rw sg (nI n) od aw tb md ql dr) H := hP
    have hD : va_D A (wd a cB cI cZ (nI g) rn lv (nI r) lk ss rw sg (nI n) od aw tb md ql dr) := hD
    refine W.eq (g2 := F0 m 15 ls [.int (fw_b (px_was g x2))]) rfl ?_
    refine lv_if_eq (tgt := 29) hx hb dX4_await_15 (by decide) (fun c_15 => ?_) (fun c_15 => ?_)
    · have c_15 := fw_b0.mp c_15
      refine lv_iconst (v := (-1)) hx hb dX4_await_29 (by decide) ?_
      exact hri _ rfl (-1) _ _ _ _ _ (rfl) (⟨rfl, rfl⟩) hP hD hS dX4_await_30
    · have c_15 := fw_b1.mp c_15
      refine lv_aload_n hx hb dX4_await_18 rfl (lv_at hl 0 rfl) ?_
      refine va_get (D := G) (ci := 4) (v := .ref (a 4)) (C := RX4) (T := TX4) (N := 4) hx hb hts hin4 hown hK hP 0 rfl rfl 3 (by decide) fl_33 (fun _ h9 => h9) rfl dX4_await_19 ?_
      refine lv_iload_n hx hb dX4_await_22 rfl (lv_at hl 1 rfl) ?_
      refine kV (As := [.int x1]) (rest := []) ⟨hx, hb, hml, hown, hts⟩ (c_X2_contains l G cB cI cZ tc a (nI g) (nI r) rn lv lk ss rw sg od aw tb md ql dr n x1 hn6) (cwV 1 hts gX4_await_X2_contains rfl rfl rfl (by decide +kernel) ⟨by decide, by decide⟩) hK hZ hA hP hD hS 4 2 rfl rfl rfl hl.1 rfl (Nat.le_of_ble_eq_true rfl) dX4_await_23 ⟨Nat.zero_le _, Nat.zero_le _⟩ (fun v w' H locs hp hP hD hS => ?_)
      obtain ⟨rfl, rfl⟩ := hp
      have hP : va_P G vwCl (wd a cB cI cZ (nI g) rn lv (nI r) lk ss rw sg (nI n) od aw tb md ql dr) H := hP
      have hD : va_D A (wd a cB cI cZ (nI g) rn lv (nI r) lk ss rw sg (nI n) od aw tb md ql dr) := hD
      refine W.eq (g2 := F0 m 26 ls [.int (fw_b (px_pl n od x1).isSome)]) rfl ?_
      refine lv_if_eq (tgt := 31) hx hb dX4_await_26 (by decide) (fun c_26 => False.elim (by have c_26 := fw_b0.mp c_26; simp [c_4, c_15, c_26] at h)) (fun c_26 => ?_)
      have c_26 := fw_b1.mp c_26
      refine lv_iconst (v := (-1)) hx hb dX4_await_29 (by decide) ?_
      exact hri _ rfl (-1) _ _ _ _ _ (rfl) (⟨rfl, rfl⟩) hP hD hS dX4_await_30

set_option maxHeartbeats 4000000 in
set_option maxRecDepth 100000 in
theorem c_await_ok (l : Launch) (G : va_G) (cB cI cZ : ClassId) (tc : Nat) (a : Nat → Nat) (rn lv lk ss rw sg od aw tb md ql dr : Nat → Int32) (g : Nat) (r : Nat) (n : Nat) (x : Nat) (k : Nat) (hx6 : x < 6) (hk1 : 1 ≤ k) (hk2 : k ≤ g) (hn : n < 6) (hno : (px_pl n od (nI x)).isSome = false) (hI : px_I g n od aw tb md ql dr) : KC l yX4_await wsX4_await rmX4_await G [(cB, .byte), (cI, .int), (cZ, .boolean)] tc [.ref (a 0), .int (nI x), .int (nI k)] (wd a cB cI cZ (nI g) rn lv (nI r) lk ss rw sg (nI n) od aw tb md ql dr) (fun v w' => if rn k = -1 then v = some (.int 0) ∧ w' = (wd a cB cI cZ (nI g) rn lv (nI r) lk ss rw sg (nI n) od aw tb md ql dr) else if px_cr (px_wo g n rn lv od aw tb md dr) (nI x) (1 <<< (rn k &&& 31)) = true then v = some (.int 2) ∧ w' = (wd a cB cI cZ (nI g) rn lv (nI r) lk ss rw sg (nI n) od aw tb md ql dr) else v = some (.int 1) ∧ w' = (wd a cB cI cZ (nI g) rn lv (nI r) lk ss rw sg (nI (n + 1)) (upd od n (nI x)) (upd aw x (nI k)) tb md ql dr)) := by
  refine KC.of (cc := cX4_await) (maxL := 4) (ret := some .int) (by decide) rfl (Nat.le_of_ble_eq_true rfl) ?_
  intro p e s m below meth c args A Q ls hx hb hml hown hts hK hZ hA hP hD hS hl hri hrv
  have hown : s.vm.findClass RX4 = some m.cls := hown
  have hl : lv_has ls 4 [(0, .ref (a 0)), (1, .int (nI x)), (2, .int (nI k))] := hl
  have fl_10 := hts (.fieldLink RX4 10 "LockDesk" "numbers" "LLockDesk$Numbers;") (by decide +kernel)
  have fl_33 := hts (.fieldLink RX4 33 "LockDesk" "queue" "LLockDesk$Queue;") (by decide +kernel)
  have hin4 : ∀ w ∈ wsX40, w ∈ wsX4_await := by decide +kernel
  have hI0 := hI
  obtain ⟨hg, hn6, hod, htb, hmd, hdr, hql, hmk⟩ := hI
  refine lv_iload_n hx hb dX4_await_0 rfl (lv_at hl 1 rfl) ?_
  refine kS (As := [.int (nI x)]) (rest := []) ⟨hx, hb, hml, hown, hts⟩ (c_X4_isSession l G [(cB, .byte), (cI, .int), (cZ, .boolean)] tc (wd a cB cI cZ (nI g) rn lv (nI r) lk ss rw sg (nI n) od aw tb md ql dr) (nI x)) (va_cwS 1 hts gX4_await_X4_isSession rfl rfl rfl (by decide +kernel) ⟨by decide, by decide⟩) hK hZ hA hP hD hS rfl hl.1 rfl (Nat.le_of_ble_eq_true rfl) dX4_await_1 ⟨Nat.zero_le _, Nat.zero_le _⟩ (fun v w' H locs hp hP hD hS => ?_)
  obtain ⟨rfl, rfl⟩ := hp
  have hP : va_P G vwCl (wd a cB cI cZ (nI g) rn lv (nI r) lk ss rw sg (nI n) od aw tb md ql dr) H := hP
  have hD : va_D A (wd a cB cI cZ (nI g) rn lv (nI r) lk ss rw sg (nI n) od aw tb md ql dr) := hD
  refine W.eq (g2 := F0 m 4 ls [.int (fw_b (px_isS (nI x)))]) rfl ?_
  refine lv_if_eq (tgt := 29) hx hb dX4_await_4 (by decide) (fun c_4 => False.elim (by rw [px_isS_nI x hx6] at c_4; exact absurd c_4 (by decide))) (fun c_4 => ?_)
  have c_4 := fw_b1.mp c_4
  refine lv_aload_n hx hb dX4_await_7 rfl (lv_at hl 0 rfl) ?_
  refine va_get (D := G) (ci := 4) (v := .ref (a 1)) (C := RX4) (T := TX4) (N := 4) hx hb hts hin4 hown hK hP 0 rfl rfl 0 (by decide) fl_10 (fun _ h9 => h9) rfl dX4_await_8 ?_
  refine lv_iload_n hx hb dX4_await_11 rfl (lv_at hl 2 rfl) ?_
  refine kV (As := [.int (nI k)]) (rest := []) ⟨hx, hb, hml, hown, hts⟩ (c_X1_wasGiven l G cB cI cZ tc a (nI r) (nI n) rn lv lk ss rw sg od aw tb md ql dr g (nI k)) (cwV 1 hts gX4_await_X1_wasGiven rfl rfl rfl (by decide +kernel) ⟨by decide, by decide⟩) hK hZ hA hP hD hS 1 1 rfl rfl rfl hl.1 rfl (Nat.le_of_ble_eq_true rfl) dX4_await_12 ⟨Nat.zero_le _, Nat.zero_le _⟩ (fun v w' H locs hp hP hD hS => ?_)
  obtain ⟨rfl, rfl⟩ := hp
  have hP : va_P G vwCl (wd a cB cI cZ (nI g) rn lv (nI r) lk ss rw sg (nI n) od aw tb md ql dr) H := hP
  have hD : va_D A (wd a cB cI cZ (nI g) rn lv (nI r) lk ss rw sg (nI n) od aw tb md ql dr) := hD
  refine W.eq (g2 := F0 m 15 ls [.int (fw_b (px_was g (nI k)))]) rfl ?_
  refine lv_if_eq (tgt := 29) hx hb dX4_await_15 (by decide) (fun c_15 => False.elim (by rw [px_was_nI (show g < 2 ^ 31 by omega) hk1 hk2] at c_15; exact absurd c_15 (by decide))) (fun c_15 => ?_)
  have c_15 := fw_b1.mp c_15
  refine lv_aload_n hx hb dX4_await_18 rfl (lv_at hl 0 rfl) ?_
  refine va_get (D := G) (ci := 4) (v := .ref (a 4)) (C := RX4) (T := TX4) (N := 4) hx hb hts hin4 hown hK hP 0 rfl rfl 3 (by decide) fl_33 (fun _ h9 => h9) rfl dX4_await_19 ?_
  refine lv_iload_n hx hb dX4_await_22 rfl (lv_at hl 1 rfl) ?_
  refine kV (As := [.int (nI x)]) (rest := []) ⟨hx, hb, hml, hown, hts⟩ (c_X2_contains l G cB cI cZ tc a (nI g) (nI r) rn lv lk ss rw sg od aw tb md ql dr n (nI x) hn6) (cwV 1 hts gX4_await_X2_contains rfl rfl rfl (by decide +kernel) ⟨by decide, by decide⟩) hK hZ hA hP hD hS 4 2 rfl rfl rfl hl.1 rfl (Nat.le_of_ble_eq_true rfl) dX4_await_23 ⟨Nat.zero_le _, Nat.zero_le _⟩ (fun v w' H locs hp hP hD hS => ?_)
  obtain ⟨rfl, rfl⟩ := hp
  have hP : va_P G vwCl (wd a cB cI cZ (nI g) rn lv (nI r) lk ss rw sg (nI n) od aw tb md ql dr) H := hP
  have hD : va_D A (wd a cB cI cZ (nI g) rn lv (nI r) lk ss rw sg (nI n) od aw tb md ql dr) := hD
  refine W.eq (g2 := F0 m 26 ls [.int (fw_b (px_pl n od (nI x)).isSome)]) rfl ?_
  refine lv_if_eq (tgt := 31) hx hb dX4_await_26 (by decide) (fun c_26 => ?_) (fun c_26 => False.elim (by rw [hno] at c_26; exact c_26 rfl))
  have c_26 := fw_b0.mp c_26
  refine lv_aload_n hx hb dX4_await_31 rfl (lv_at hl 0 rfl) ?_
  refine va_get (D := G) (ci := 4) (v := .ref (a 1)) (C := RX4) (T := TX4) (N := 4) hx hb hts hin4 hown hK hP 0 rfl rfl 0 (by decide) fl_10 (fun _ h9 => h9) rfl dX4_await_32 ?_
  refine lv_iload_n hx hb dX4_await_35 rfl (lv_at hl 2 rfl) ?_
  refine kV (As := [.int (nI k)]) (rest := []) ⟨hx, hb, hml, hown, hts⟩ (c_X1_runnerOf l G cB cI cZ tc a (nI r) (nI n) rn lv lk ss rw sg od aw tb md ql dr g (nI k) hg) (cwV 1 hts gX4_await_X1_runnerOf rfl rfl rfl (by decide +kernel) ⟨by decide, by decide⟩) hK hZ hA hP hD hS 1 1 rfl rfl rfl hl.1 rfl (Nat.le_of_ble_eq_true rfl) dX4_await_36 ⟨Nat.zero_le _, Nat.zero_le _⟩ (fun v w' H locs hp hP hD hS => ?_)
  obtain ⟨rfl, rfl⟩ := hp
  rw [px_run_nI (by omega) hk1 hk2]
  have hP : va_P G vwCl (wd a cB cI cZ (nI g) rn lv (nI r) lk ss rw sg (nI n) od aw tb md ql dr) H := hP
  have hD : va_D A (wd a cB cI cZ (nI g) rn lv (nI r) lk ss rw sg (nI n) od aw tb md ql dr) := hD
  refine W.eq (g2 := F0 m 39 ls [.int (rn k)]) rfl ?_
  refine lv_istore_n (lv' := [(3, .int (rn k)), (0, .ref (a 0)), (1, .int (nI x)), (2, .int (nI k))]) hx hb dX4_await_39 rfl hl (by decide) rfl (fun ls hl => ?_)
  refine lv_iload_n hx hb dX4_await_40 rfl (lv_at hl 0 rfl) ?_
  refine lv_iconst (v := (-1)) hx hb dX4_await_41 (by decide) ?_
  refine lv_icmp_ne (tgt := 47) hx hb dX4_await_42 (by decide) (fun c_42 => ?_) (fun c_42 => ?_)
  · refine lv_aload_n hx hb dX4_await_47 rfl (lv_at hl 1 rfl) ?_
    refine lv_iload_n hx hb dX4_await_48 rfl (lv_at hl 2 rfl) ?_
    refine lv_iconst (v := 1) hx hb dX4_await_49 (by decide) ?_
    refine lv_iload_n hx hb dX4_await_50 rfl (lv_at hl 0 rfl) ?_
    refine lv_ishl hx hb dX4_await_51 ?_
    refine kV (As := [.int (nI x), .int (1 <<< ((rn k) &&& 31))]) (rest := []) ⟨hx, hb, hml, hown, hts⟩ (c_X4_closesRing l G cB cI cZ tc a rn lv lk ss rw sg od aw tb md ql dr g r n (nI x) (1 <<< (rn k &&& 31)) hI0) (cwV 2 hts gX4_await_X4_closesRing rfl rfl rfl (by decide +kernel) ⟨by decide, by decide⟩) hK hZ hA hP hD hS 0 4 rfl rfl rfl hl.1 rfl (Nat.le_of_ble_eq_true rfl) dX4_await_52 ⟨Nat.zero_le _, Nat.zero_le _⟩ (fun v w' H locs hp hP hD hS => ?_)
    obtain ⟨rfl, rfl⟩ := hp
    have hP : va_P G vwCl (wd a cB cI cZ (nI g) rn lv (nI r) lk ss rw sg (nI n) od aw tb md ql dr) H := hP
    have hD : va_D A (wd a cB cI cZ (nI g) rn lv (nI r) lk ss rw sg (nI n) od aw tb md ql dr) := hD
    refine W.eq (g2 := F0 m 55 ls [.int (fw_b (px_cr (px_wo g n rn lv od aw tb md dr) (nI x) (1 <<< (rn k &&& 31))))]) rfl ?_
    refine lv_if_eq (tgt := 60) hx hb dX4_await_55 (by decide) (fun c_55 => ?_) (fun c_55 => ?_)
    · have c_55 := fw_b0.mp c_55
      refine lv_aload_n hx hb dX4_await_60 rfl (lv_at hl 1 rfl) ?_
      refine va_get (D := G) (ci := 4) (v := .ref (a 4)) (C := RX4) (T := TX4) (N := 4) hx hb hts hin4 hown hK hP 0 rfl rfl 3 (by decide) fl_33 (fun _ h9 => h9) rfl dX4_await_61 ?_
      refine lv_iload_n hx hb dX4_await_64 rfl (lv_at hl 2 rfl) ?_
      refine lv_iload_n hx hb dX4_await_65 rfl (lv_at hl 3 rfl) ?_
      refine kV (As := [.int (nI x), .int (nI k)]) (rest := []) ⟨hx, hb, hml, hown, hts⟩ (c_X2_addForNumber l G cB cI cZ tc a (nI g) (nI r) rn lv lk ss rw sg od aw tb md ql dr n x (nI k) hn hx6) (cwV 2 hts gX4_await_X2_addForNumber rfl rfl rfl (by decide +kernel) ⟨by decide, by decide⟩) hK hZ hA hP hD hS 4 2 rfl rfl rfl hl.1 rfl (Nat.le_of_ble_eq_true rfl) dX4_await_66 ⟨Nat.zero_le _, Nat.zero_le _⟩ (fun v w' H locs hp hP hD hS => ?_)
      obtain ⟨rfl, rfl⟩ := hp
      have hP : va_P G vwCl (wd a cB cI cZ (nI g) rn lv (nI r) lk ss rw sg (nI (n + 1)) (upd od n (nI x)) (upd aw x (nI k)) tb md ql dr) H := hP
      have hD : va_D A (wd a cB cI cZ (nI g) rn lv (nI r) lk ss rw sg (nI (n + 1)) (upd od n (nI x)) (upd aw x (nI k)) tb md ql dr) := hD
      refine W.eq (g2 := F0 m 69 ls []) rfl ?_
      refine lv_iconst (v := 1) hx hb dX4_await_69 (by decide) ?_
      exact hri _ rfl 1 _ _ _ _ _ (rfl) (by rw [if_neg c_42, if_neg (show ¬ px_cr (px_wo g n rn lv od aw tb md dr) (nI x) (1 <<< (rn k &&& 31)) = true by rw [c_55]; decide)]; exact ⟨rfl, rfl⟩) hP hD hS dX4_await_70
    · have c_55 := fw_b1.mp c_55
      refine lv_iconst (v := 2) hx hb dX4_await_58 (by decide) ?_
      exact hri _ rfl 2 _ _ _ _ _ (rfl) (by rw [if_neg c_42, if_pos c_55]; exact ⟨rfl, rfl⟩) hP hD hS dX4_await_59
  · refine lv_iconst (v := 0) hx hb dX4_await_45 (by decide) ?_
    exact hri _ rfl 0 _ _ _ _ _ (rfl) (by rw [if_pos c_42]; exact ⟨rfl, rfl⟩) hP hD hS dX4_await_46

abbrev rmX4_next : Room := { frames := 5, cells := 0, slots := 0, locals := 117 }
set_option maxHeartbeats 4000000 in
set_option maxRecDepth 100000 in
theorem c_next (l : Launch) (G : va_G) (cB cI cZ : ClassId) (tc : Nat) (a : Nat → Nat) (rn lv lk ss rw sg od aw tb md ql dr : Nat → Int32) (g : Nat) (r : Nat) (n : Nat) (hI : px_I g n od aw tb md ql dr) : KC l yX4_next wsX4_next rmX4_next G [(cB, .byte), (cI, .int), (cZ, .boolean)] tc [.ref (a 0)] (wd a cB cI cZ (nI g) rn lv (nI r) lk ss rw sg (nI n) od aw tb md ql dr) (fun v w' => match px_fst (fun k => decide (px_wo g n rn lv od aw tb md dr (od k) = 0)) n with | none => v = some (.int (-1)) ∧ w' = (wd a cB cI cZ (nI g) rn lv (nI r) lk ss rw sg (nI n) od aw tb md ql dr) | some q => ∃ x : Nat, x < 6 ∧ od q = nI x ∧ (if aw x = 0 then (if dr x = 0 then ∃ y k z : Nat, y < 8 ∧ k < 8 ∧ z < 8 ∧ tb x = nI y ∧ md x = nI (k + 1) ∧ ql x = nI z ∧ v = some (.int (nI x)) ∧ w' = (wd a cB cI cZ (nI g) rn (upd lv (64 * x + 8 * y + k) (nI z)) (nI r) lk ss rw sg (nI (px_rm n od (nI x)).1) ((px_rm n od (nI x)).2) aw tb md ql dr) else v = some (.int (nI x + 8)) ∧ w' = (wd a cB cI cZ (nI g) rn lv (nI r) lk ss rw sg (nI (px_rm n od (nI x)).1) ((px_rm n od (nI x)).2) aw tb md ql dr)) else v = some (.int (nI x)) ∧ w' = (wd a cB cI cZ (nI g) rn lv (nI r) lk ss rw sg (nI (px_rm n od (nI x)).1) ((px_rm n od (nI x)).2) aw tb md ql dr))) := by
  refine KC.of (cc := cX4_next) (maxL := 3) (ret := some .int) (by decide) rfl (Nat.le_of_ble_eq_true rfl) ?_
  intro p e s m below meth c args A Q ls hx hb hml hown hts hK hZ hA hP hD hS hl hri hrv
  have hown : s.vm.findClass RX4 = some m.cls := hown
  have hl : lv_has ls 3 [(0, .ref (a 0))] := hl
  have fl_33 := hts (.fieldLink RX4 33 "LockDesk" "queue" "LLockDesk$Queue;") (by decide +kernel)
  have hin4 : ∀ w ∈ wsX40, w ∈ wsX4_next := by decide +kernel
  have hI0 := hI
  obtain ⟨hg, hn6, hod, htb, hmd, hdr, hql, hmk⟩ := hI
  refine lv_iconst (v := 0) hx hb dX4_next_0 (by decide) ?_
  refine lv_istore_n (lv' := [(1, .int 0), (0, .ref (a 0))]) hx hb dX4_next_1 rfl hl (by decide) rfl (fun ls hl => ?_)
  have lp_2 : ∀ (nf : Nat) (i : Nat) (H : Heap) (locs : List Loc) (ls : Array Slot), n - i < nf → (i ≤ n) → (px_fst (fun k => decide (px_wo g n rn lv od aw tb md dr (od k) = 0)) i = none) → va_P G vwCl (wd a cB cI cZ (nI g) rn lv (nI r) lk ss rw sg (nI n) od aw tb md ql dr) H → va_D A (wd a cB cI cZ (nI g) rn lv (nI r) lk ss rw sg (nI n) od aw tb md ql dr) → va_S A s.heap H locs → lv_has ls 3 [(1, .int (nI i)), (0, .ref (a 0))] → W p l e rmX4_next s m args below meth c H locs 0 0 Q (F0 m 2 ls []) := by
    intro nf
    induction nf with
    | zero => intro i H locs ls h0; exact absurd h0 (Nat.not_lt_zero _)
    | succ nf_2 ih_2 =>
      intro i H locs ls hn_2 hi hno hP hD hS hl
      refine lv_iload_n hx hb dX4_next_2 rfl (lv_at hl 0 rfl) ?_
      refine lv_aload_n hx hb dX4_next_3 rfl (lv_at hl 1 rfl) ?_
      refine va_get (D := G) (ci := 4) (v := .ref (a 4)) (C := RX4) (T := TX4) (N := 4) hx hb hts hin4 hown hK hP 0 rfl rfl 3 (by decide) fl_33 (fun _ h9 => h9) rfl dX4_next_4 ?_
      refine kV (As := []) (rest := [.int (nI i)]) ⟨hx, hb, hml, hown, hts⟩ (c_X2_size l G cB cI cZ tc a (nI g) (nI r) rn lv lk ss rw sg od aw tb md ql dr n) (cwV 0 hts gX4_next_X2_size rfl rfl rfl (by decide +kernel) ⟨by decide, by decide⟩) hK hZ hA hP hD hS 4 2 rfl rfl rfl hl.1 rfl (Nat.le_of_ble_eq_true rfl) dX4_next_7 ⟨Nat.zero_le _, Nat.zero_le _⟩ (fun v w' H locs hp hP hD hS => ?_)
      obtain ⟨rfl, rfl⟩ := hp
      have hP : va_P G vwCl (wd a cB cI cZ (nI g) rn lv (nI r) lk ss rw sg (nI n) od aw tb md ql dr) H := hP
      have hD : va_D A (wd a cB cI cZ (nI g) rn lv (nI r) lk ss rw sg (nI n) od aw tb md ql dr) := hD
      refine W.eq (g2 := F0 m 10 ls [.int (nI n), .int (nI i)]) rfl ?_
      refine lv_icmp_ge (tgt := 42) hx hb dX4_next_10 (by decide) (fun c_10 => ?_) (fun c_10 => ?_)
      · have hE : i = n := by
          have := fw_nle c_10 (by omega) (by omega)
          omega
        rw [hE] at hno
        refine lv_iconst (v := (-1)) hx hb dX4_next_42 (by decide) ?_
        exact hri _ rfl (-1) _ _ _ _ _ (rfl) (by rw [hno]; exact ⟨rfl, rfl⟩) hP hD hS dX4_next_43
      · have hL : i < n := by
          have := fw_nlt c_10 (by omega) (by omega)
          omega
        refine lv_aload_n hx hb dX4_next_13 rfl (lv_at hl 1 rfl) ?_
        refine va_get (D := G) (ci := 4) (v := .ref (a 4)) (C := RX4) (T := TX4) (N := 4) hx hb hts hin4 hown hK hP 0 rfl rfl 3 (by decide) fl_33 (fun _ h9 => h9) rfl dX4_next_14 ?_
        refine lv_iload_n hx hb dX4_next_17 rfl (lv_at hl 0 rfl) ?_
        refine kV (As := [.int (nI i)]) (rest := []) ⟨hx, hb, hml, hown, hts⟩ (c_X2_sessionAt l G cB cI cZ tc a (nI g) (nI r) rn lv lk ss rw sg od aw tb md ql dr n (nI i) hn6) (cwV 1 hts gX4_next_X2_sessionAt rfl rfl rfl (by decide +kernel) ⟨by decide, by decide⟩) hK hZ hA hP hD hS 4 2 rfl rfl rfl hl.1 rfl (Nat.le_of_ble_eq_true rfl) dX4_next_18 ⟨Nat.zero_le _, Nat.zero_le _⟩ (fun v w' H locs hp hP hD hS => ?_)
        obtain ⟨rfl, rfl⟩ := hp
        obtain ⟨x, hx6, ex⟩ := hod i hL
        rw [show px_at n od (nI i) = nI x by rw [px_at, if_neg (nI_pos (by omega)), if_neg (nI_ge hL (by omega)), nI_clamp (by omega), ex]]
        have hP : va_P G vwCl (wd a cB cI cZ (nI g) rn lv (nI r) lk ss rw sg (nI n) od aw tb md ql dr) H := hP
        have hD : va_D A (wd a cB cI cZ (nI g) rn lv (nI r) lk ss rw sg (nI n) od aw tb md ql dr) := hD
        refine W.eq (g2 := F0 m 21 ls [.int (nI x)]) rfl ?_
        refine lv_istore_n (lv' := [(2, .int (nI x)), (1, .int (nI i)), (0, .ref (a 0))]) hx hb dX4_next_21 rfl hl (by decide) rfl (fun ls hl => ?_)
        refine lv_aload_n hx hb dX4_next_22 rfl (lv_at hl 2 rfl) ?_
        refine lv_iload_n hx hb dX4_next_23 rfl (lv_at hl 0 rfl) ?_
        refine kV (As := [.int (nI x)]) (rest := []) ⟨hx, hb, hml, hown, hts⟩ (c_X4_waitsOn l G cB cI cZ tc a rn lv lk ss rw sg od aw tb md ql dr g r n (nI x) hI0) (cwV 1 hts gX4_next_X4_waitsOn rfl rfl rfl (by decide +kernel) ⟨by decide, by decide⟩) hK hZ hA hP hD hS 0 4 rfl rfl rfl hl.1 rfl (Nat.le_of_ble_eq_true rfl) dX4_next_24 ⟨Nat.zero_le _, Nat.zero_le _⟩ (fun v w' H locs hp hP hD hS => ?_)
        obtain ⟨rfl, rfl⟩ := hp
        have hP : va_P G vwCl (wd a cB cI cZ (nI g) rn lv (nI r) lk ss rw sg (nI n) od aw tb md ql dr) H := hP
        have hD : va_D A (wd a cB cI cZ (nI g) rn lv (nI r) lk ss rw sg (nI n) od aw tb md ql dr) := hD
        refine W.eq (g2 := F0 m 27 ls [.int (px_wo g n rn lv od aw tb md dr (nI x))]) rfl ?_
        refine lv_if_ne (tgt := 36) hx hb dX4_next_27 (by decide) (fun c_27 => ?_) (fun c_27 => ?_)
        · refine lv_iinc (v := nI (i + 1)) (lv' := [(1, .int (nI (i + 1))), (2, .int (nI x)), (0, .ref (a 0))]) hx hb dX4_next_36 hl (k := 1) rfl (fw_inc _) (by decide) rfl (fun ls hl => ?_)
          refine lv_goto (tgt := 2) hx hb dX4_next_39 (by decide) ?_
          exact ih_2 (i + 1) _ _ _ (by omega) (by omega) (px_fstS hno (by simp [ex, c_27])) hP hD hS (lv_sub hl [0, 2] rfl)
        · refine lv_aload_n hx hb dX4_next_30 rfl (lv_at hl 2 rfl) ?_
          refine lv_iload_n hx hb dX4_next_31 rfl (lv_at hl 0 rfl) ?_
          refine kV (As := [.int (nI x)]) (rest := []) ⟨hx, hb, hml, hown, hts⟩ (c_X4_wake l G cB cI cZ tc a rn lv lk ss rw sg od aw tb md ql dr g r n x hx6 (fun h0 => hmk i x hL hx6 ex h0) hI0) (cwV 1 hts gX4_next_X4_wake rfl rfl rfl (by decide +kernel) ⟨by decide, by decide⟩) hK hZ hA hP hD hS 0 4 rfl rfl rfl hl.1 rfl (Nat.le_of_ble_eq_true rfl) dX4_next_32 ⟨Nat.zero_le _, Nat.zero_le _⟩ (fun v w' H locs hp hP hD hS => ?_)
          skip
          have hfound : px_fst (fun k => decide (px_wo g n rn lv od aw tb md dr (od k) = 0)) n = some i := px_fstT hno (by simp [ex, c_27]) hL
          by_cases ha : aw x = 0
          · rw [if_pos ha] at hp
            by_cases hd : dr x = 0
            · rw [if_pos hd] at hp
              obtain ⟨y, k, z, hy8, hk8, hz8, ey, ek, ez, rfl, rfl⟩ := hp
              exact hri _ rfl (nI x) _ _ _ _ _ rfl (by rw [hfound]; exact ⟨x, hx6, ex, by rw [if_pos ha, if_pos hd]; exact ⟨y, k, z, hy8, hk8, hz8, ey, ek, ez, rfl, rfl⟩⟩) hP hD hS dX4_next_35
            · rw [if_neg hd] at hp
              obtain ⟨rfl, rfl⟩ := hp
              exact hri _ rfl (nI x + 8) _ _ _ _ _ rfl (by rw [hfound]; exact ⟨x, hx6, ex, by rw [if_pos ha, if_neg hd]; exact ⟨rfl, rfl⟩⟩) hP hD hS dX4_next_35
          · rw [if_neg ha] at hp
            obtain ⟨rfl, rfl⟩ := hp
            exact hri _ rfl (nI x) _ _ _ _ _ rfl (by rw [hfound]; exact ⟨x, hx6, ex, by rw [if_neg ha]; exact ⟨rfl, rfl⟩⟩) hP hD hS dX4_next_35
  exact lp_2 _ 0 _ _ _ (Nat.lt_succ_self _) (by omega) (rfl) hP hD hS (lv_sub hl [0, 1] rfl)

abbrev rmX4_cancel : Room := { frames := 2, cells := 0, slots := 0, locals := 43 }
set_option maxHeartbeats 4000000 in
set_option maxRecDepth 100000 in
theorem c_cancel (l : Launch) (G : va_G) (cB cI cZ : ClassId) (tc : Nat) (a : Nat → Nat) (rn lv lk ss rw sg od aw tb md ql dr : Nat → Int32) (g : Nat) (r : Nat) (n : Nat) (x1 : Int32) (hn6 : n ≤ 6) : KC l yX4_cancel wsX4_cancel rmX4_cancel G [(cB, .byte), (cI, .int), (cZ, .boolean)] tc [.ref (a 0), .int x1] (wd a cB cI cZ (nI g) rn lv (nI r) lk ss rw sg (nI n) od aw tb md ql dr) (fun v w' => if (px_pl n od x1).isSome = true then v = some (.int 1) ∧ w' = (wd a cB cI cZ (nI g) rn lv (nI r) lk ss rw sg (nI (px_rm n od x1).1) ((px_rm n od x1).2) aw tb md ql dr) else v = some (.int 0) ∧ w' = (wd a cB cI cZ (nI g) rn lv (nI r) lk ss rw sg (nI n) od aw tb md ql dr)) := by
  refine KC.of (cc := cX4_cancel) (maxL := 2) (ret := some .boolean) (by decide) rfl (Nat.le_of_ble_eq_true rfl) ?_
  intro p e s m below meth c args A Q ls hx hb hml hown hts hK hZ hA hP hD hS hl hri hrv
  have hown : s.vm.findClass RX4 = some m.cls := hown
  have hl : lv_has ls 2 [(0, .ref (a 0)), (1, .int x1)] := hl
  have fl_33 := hts (.fieldLink RX4 33 "LockDesk" "queue" "LLockDesk$Queue;") (by decide +kernel)
  have hin4 : ∀ w ∈ wsX40, w ∈ wsX4_cancel := by decide +kernel
  refine lv_aload_n hx hb dX4_cancel_0 rfl (lv_at hl 0 rfl) ?_
  refine va_get (D := G) (ci := 4) (v := .ref (a 4)) (C := RX4) (T := TX4) (N := 4) hx hb hts hin4 hown hK hP 0 rfl rfl 3 (by decide) fl_33 (fun _ h9 => h9) rfl dX4_cancel_1 ?_
  refine lv_iload_n hx hb dX4_cancel_4 rfl (lv_at hl 1 rfl) ?_
  refine kV (As := [.int x1]) (rest := []) ⟨hx, hb, hml, hown, hts⟩ (c_X2_contains l G cB cI cZ tc a (nI g) (nI r) rn lv lk ss rw sg od aw tb md ql dr n x1 hn6) (cwV 1 hts gX4_cancel_X2_contains rfl rfl rfl (by decide +kernel) ⟨by decide, by decide⟩) hK hZ hA hP hD hS 4 2 rfl rfl rfl hl.1 rfl (Nat.le_of_ble_eq_true rfl) dX4_cancel_5 ⟨Nat.zero_le _, Nat.zero_le _⟩ (fun v w' H locs hp hP hD hS => ?_)
  obtain ⟨rfl, rfl⟩ := hp
  have hP : va_P G vwCl (wd a cB cI cZ (nI g) rn lv (nI r) lk ss rw sg (nI n) od aw tb md ql dr) H := hP
  have hD : va_D A (wd a cB cI cZ (nI g) rn lv (nI r) lk ss rw sg (nI n) od aw tb md ql dr) := hD
  refine W.eq (g2 := F0 m 8 ls [.int (fw_b (px_pl n od x1).isSome)]) rfl ?_
  refine lv_if_ne (tgt := 13) hx hb dX4_cancel_8 (by decide) (fun c_8 => ?_) (fun c_8 => ?_)
  · have c_8 := fw_b1.mp c_8
    refine lv_aload_n hx hb dX4_cancel_13 rfl (lv_at hl 0 rfl) ?_
    refine va_get (D := G) (ci := 4) (v := .ref (a 4)) (C := RX4) (T := TX4) (N := 4) hx hb hts hin4 hown hK hP 0 rfl rfl 3 (by decide) fl_33 (fun _ h9 => h9) rfl dX4_cancel_14 ?_
    refine lv_iload_n hx hb dX4_cancel_17 rfl (lv_at hl 1 rfl) ?_
    refine kV (As := [.int x1]) (rest := []) ⟨hx, hb, hml, hown, hts⟩ (c_X2_remove l G cB cI cZ tc a (nI g) (nI r) rn lv lk ss rw sg od aw tb md ql dr n x1 hn6) (cwV 1 hts gX4_cancel_X2_remove rfl rfl rfl (by decide +kernel) ⟨by decide, by decide⟩) hK hZ hA hP hD hS 4 2 rfl rfl rfl hl.1 rfl (Nat.le_of_ble_eq_true rfl) dX4_cancel_18 ⟨Nat.zero_le _, Nat.zero_le _⟩ (fun v w' H locs hp hP hD hS => ?_)
    obtain ⟨rfl, rfl⟩ := hp
    have hP : va_P G vwCl (wd a cB cI cZ (nI g) rn lv (nI r) lk ss rw sg (nI (px_rm n od x1).1) ((px_rm n od x1).2) aw tb md ql dr) H := hP
    have hD : va_D A (wd a cB cI cZ (nI g) rn lv (nI r) lk ss rw sg (nI (px_rm n od x1).1) ((px_rm n od x1).2) aw tb md ql dr) := hD
    refine W.eq (g2 := F0 m 21 ls []) rfl ?_
    refine lv_iconst (v := 1) hx hb dX4_cancel_21 (by decide) ?_
    exact hri _ rfl 1 _ _ _ _ _ (by decide) (by rw [if_pos c_8]; exact ⟨rfl, rfl⟩) hP hD hS dX4_cancel_22
  · have c_8 := fw_b0.mp c_8
    refine lv_iconst (v := 0) hx hb dX4_cancel_11 (by decide) ?_
    exact hri _ rfl 0 _ _ _ _ _ (by decide) (by rw [if_neg (show ¬ (px_pl n od x1).isSome = true by rw [c_8]; decide)]; exact ⟨rfl, rfl⟩) hP hD hS dX4_cancel_12

abbrev rmX4_end : Room := { frames := 3, cells := 0, slots := 0, locals := 69 }
set_option maxHeartbeats 4000000 in
set_option maxRecDepth 100000 in
theorem c_end_no (l : Launch) (G : va_G) (cB cI cZ : ClassId) (tc : Nat) (a : Nat → Nat) (rn lv lk ss rw sg od aw tb md ql dr : Nat → Int32) (g : Nat) (r : Nat) (n : Nat) (x1 : Int32) (x2 : Int32) (h : (px_isS x1 && px_isT x2) = false) : KC l yX4_end wsX4_end rmX4_end G [(cB, .byte), (cI, .int), (cZ, .boolean)] tc [.ref (a 0), .int x1, .int x2] (wd a cB cI cZ (nI g) rn lv (nI r) lk ss rw sg (nI n) od aw tb md ql dr) (fun v w' => v = some (.int (0)) ∧ w' = (wd a cB cI cZ (nI g) rn lv (nI r) lk ss rw sg (nI n) od aw tb md ql dr)) := by
  refine KC.of (cc := cX4_end) (maxL := 3) (ret := some .boolean) (by decide) rfl (Nat.le_of_ble_eq_true rfl) ?_
  intro p e s m below meth c args A Q ls hx hb hml hown hts hK hZ hA hP hD hS hl hri hrv
  have hown : s.vm.findClass RX4 = some m.cls := hown
  have hl : lv_has ls 3 [(0, .ref (a 0)), (1, .int x1), (2, .int x2)] := hl
  have fl_19 := hts (.fieldLink RX4 19 "LockDesk" "holdings" "LLockDesk$Holdings;") (by decide +kernel)
  have hin4 : ∀ w ∈ wsX40, w ∈ wsX4_end := by decide +kernel
  refine lv_iload_n hx hb dX4_end_0 rfl (lv_at hl 1 rfl) ?_
  refine kS (As := [.int x1]) (rest := []) ⟨hx, hb, hml, hown, hts⟩ (c_X4_isSession l G [(cB, .byte), (cI, .int), (cZ, .boolean)] tc (wd a cB cI cZ (nI g) rn lv (nI r) lk ss rw sg (nI n) od aw tb md ql dr) x1) (va_cwS 1 hts gX4_end_X4_isSession rfl rfl rfl (by decide +kernel) ⟨by decide, by decide⟩) hK hZ hA hP hD hS rfl hl.1 rfl (Nat.le_of_ble_eq_true rfl) dX4_end_1 ⟨Nat.zero_le _, Nat.zero_le _⟩ (fun v w' H locs hp hP hD hS => ?_)
  obtain ⟨rfl, rfl⟩ := hp
  have hP : va_P G vwCl (wd a cB cI cZ (nI g) rn lv (nI r) lk ss rw sg (nI n) od aw tb md ql dr) H := hP
  have hD : va_D A (wd a cB cI cZ (nI g) rn lv (nI r) lk ss rw sg (nI n) od aw tb md ql dr) := hD
  refine W.eq (g2 := F0 m 4 ls [.int (fw_b (px_isS x1))]) rfl ?_
  refine lv_if_eq (tgt := 14) hx hb dX4_end_4 (by decide) (fun c_4 => ?_) (fun c_4 => ?_)
  · have c_4 := fw_b0.mp c_4
    refine lv_iconst (v := 0) hx hb dX4_end_14 (by decide) ?_
    exact hri _ rfl 0 _ _ _ _ _ (by decide) (⟨rfl, rfl⟩) hP hD hS dX4_end_15
  · have c_4 := fw_b1.mp c_4
    refine lv_iload_n hx hb dX4_end_7 rfl (lv_at hl 2 rfl) ?_
    refine kS (As := [.int x2]) (rest := []) ⟨hx, hb, hml, hown, hts⟩ (c_X4_isLevel l G [(cB, .byte), (cI, .int), (cZ, .boolean)] tc (wd a cB cI cZ (nI g) rn lv (nI r) lk ss rw sg (nI n) od aw tb md ql dr) x2) (va_cwS 1 hts gX4_end_X4_isLevel rfl rfl rfl (by decide +kernel) ⟨by decide, by decide⟩) hK hZ hA hP hD hS rfl hl.1 rfl (Nat.le_of_ble_eq_true rfl) dX4_end_8 ⟨Nat.zero_le _, Nat.zero_le _⟩ (fun v w' H locs hp hP hD hS => ?_)
    obtain ⟨rfl, rfl⟩ := hp
    have hP : va_P G vwCl (wd a cB cI cZ (nI g) rn lv (nI r) lk ss rw sg (nI n) od aw tb md ql dr) H := hP
    have hD : va_D A (wd a cB cI cZ (nI g) rn lv (nI r) lk ss rw sg (nI n) od aw tb md ql dr) := hD
    refine W.eq (g2 := F0 m 11 ls [.int (fw_b (px_isT x2))]) rfl ?_
    refine lv_if_ne (tgt := 16) hx hb dX4_end_11 (by decide) (fun c_11 => False.elim (by have c_11 := fw_b1.mp c_11; simp [c_4, c_11] at h)) (fun c_11 => ?_)
    have c_11 := fw_b0.mp c_11
    refine lv_iconst (v := 0) hx hb dX4_end_14 (by decide) ?_
    exact hri _ rfl 0 _ _ _ _ _ (by decide) (⟨rfl, rfl⟩) hP hD hS dX4_end_15

set_option maxHeartbeats 4000000 in
set_option maxRecDepth 100000 in
theorem c_end_ok (l : Launch) (G : va_G) (cB cI cZ : ClassId) (tc : Nat) (a : Nat → Nat) (rn lv lk ss rw sg od aw tb md ql dr : Nat → Int32) (g : Nat) (r : Nat) (n : Nat) (x : Nat) (x2 : Int32) (hx6 : x < 6) (h2 : px_isT x2 = true) : KC l yX4_end wsX4_end rmX4_end G [(cB, .byte), (cI, .int), (cZ, .boolean)] tc [.ref (a 0), .int (nI x), .int x2] (wd a cB cI cZ (nI g) rn lv (nI r) lk ss rw sg (nI n) od aw tb md ql dr) (fun v w' => v = some (.int (1)) ∧ w' = (wd a cB cI cZ (nI g) rn (px_rep x x2 (-1) lv) (nI r) lk ss rw sg (nI n) od aw tb md ql dr)) := by
  refine KC.of (cc := cX4_end) (maxL := 3) (ret := some .boolean) (by decide) rfl (Nat.le_of_ble_eq_true rfl) ?_
  intro p e s m below meth c args A Q ls hx hb hml hown hts hK hZ hA hP hD hS hl hri hrv
  have hown : s.vm.findClass RX4 = some m.cls := hown
  have hl : lv_has ls 3 [(0, .ref (a 0)), (1, .int (nI x)), (2, .int x2)] := hl
  have fl_19 := hts (.fieldLink RX4 19 "LockDesk" "holdings" "LLockDesk$Holdings;") (by decide +kernel)
  have hin4 : ∀ w ∈ wsX40, w ∈ wsX4_end := by decide +kernel
  refine lv_iload_n hx hb dX4_end_0 rfl (lv_at hl 1 rfl) ?_
  refine kS (As := [.int (nI x)]) (rest := []) ⟨hx, hb, hml, hown, hts⟩ (c_X4_isSession l G [(cB, .byte), (cI, .int), (cZ, .boolean)] tc (wd a cB cI cZ (nI g) rn lv (nI r) lk ss rw sg (nI n) od aw tb md ql dr) (nI x)) (va_cwS 1 hts gX4_end_X4_isSession rfl rfl rfl (by decide +kernel) ⟨by decide, by decide⟩) hK hZ hA hP hD hS rfl hl.1 rfl (Nat.le_of_ble_eq_true rfl) dX4_end_1 ⟨Nat.zero_le _, Nat.zero_le _⟩ (fun v w' H locs hp hP hD hS => ?_)
  obtain ⟨rfl, rfl⟩ := hp
  have hP : va_P G vwCl (wd a cB cI cZ (nI g) rn lv (nI r) lk ss rw sg (nI n) od aw tb md ql dr) H := hP
  have hD : va_D A (wd a cB cI cZ (nI g) rn lv (nI r) lk ss rw sg (nI n) od aw tb md ql dr) := hD
  refine W.eq (g2 := F0 m 4 ls [.int (fw_b (px_isS (nI x)))]) rfl ?_
  refine lv_if_eq (tgt := 14) hx hb dX4_end_4 (by decide) (fun c_4 => False.elim (by rw [px_isS_nI x hx6] at c_4; exact absurd c_4 (by decide))) (fun c_4 => ?_)
  have c_4 := fw_b1.mp c_4
  refine lv_iload_n hx hb dX4_end_7 rfl (lv_at hl 2 rfl) ?_
  refine kS (As := [.int x2]) (rest := []) ⟨hx, hb, hml, hown, hts⟩ (c_X4_isLevel l G [(cB, .byte), (cI, .int), (cZ, .boolean)] tc (wd a cB cI cZ (nI g) rn lv (nI r) lk ss rw sg (nI n) od aw tb md ql dr) x2) (va_cwS 1 hts gX4_end_X4_isLevel rfl rfl rfl (by decide +kernel) ⟨by decide, by decide⟩) hK hZ hA hP hD hS rfl hl.1 rfl (Nat.le_of_ble_eq_true rfl) dX4_end_8 ⟨Nat.zero_le _, Nat.zero_le _⟩ (fun v w' H locs hp hP hD hS => ?_)
  obtain ⟨rfl, rfl⟩ := hp
  have hP : va_P G vwCl (wd a cB cI cZ (nI g) rn lv (nI r) lk ss rw sg (nI n) od aw tb md ql dr) H := hP
  have hD : va_D A (wd a cB cI cZ (nI g) rn lv (nI r) lk ss rw sg (nI n) od aw tb md ql dr) := hD
  refine W.eq (g2 := F0 m 11 ls [.int (fw_b (px_isT x2))]) rfl ?_
  refine lv_if_ne (tgt := 16) hx hb dX4_end_11 (by decide) (fun c_11 => ?_) (fun c_11 => False.elim (by rw [h2] at c_11; exact absurd c_11 (by decide)))
  have c_11 := fw_b1.mp c_11
  refine lv_aload_n hx hb dX4_end_16 rfl (lv_at hl 0 rfl) ?_
  refine va_get (D := G) (ci := 4) (v := .ref (a 2)) (C := RX4) (T := TX4) (N := 4) hx hb hts hin4 hown hK hP 0 rfl rfl 1 (by decide) fl_19 (fun _ h9 => h9) rfl dX4_end_17 ?_
  refine lv_iload_n hx hb dX4_end_20 rfl (lv_at hl 1 rfl) ?_
  refine lv_iload_n hx hb dX4_end_21 rfl (lv_at hl 2 rfl) ?_
  refine kV (As := [.int (nI x), .int x2]) (rest := []) ⟨hx, hb, hml, hown, hts⟩ (c_X0_giveUp l G cB cI cZ tc a (nI g) (nI r) (nI n) rn lv lk ss rw sg od aw tb md ql dr x x2 hx6) (cwV 2 hts gX4_end_X0_giveUp rfl rfl rfl (by decide +kernel) ⟨by decide, by decide⟩) hK hZ hA hP hD hS 2 0 rfl rfl rfl hl.1 rfl (Nat.le_of_ble_eq_true rfl) dX4_end_22 ⟨Nat.zero_le _, Nat.zero_le _⟩ (fun v w' H locs hp hP hD hS => ?_)
  obtain ⟨rfl, rfl⟩ := hp
  have hP : va_P G vwCl (wd a cB cI cZ (nI g) rn (px_rep x x2 (-1) lv) (nI r) lk ss rw sg (nI n) od aw tb md ql dr) H := hP
  have hD : va_D A (wd a cB cI cZ (nI g) rn (px_rep x x2 (-1) lv) (nI r) lk ss rw sg (nI n) od aw tb md ql dr) := hD
  refine W.eq (g2 := F0 m 25 ls []) rfl ?_
  refine lv_iconst (v := 1) hx hb dX4_end_25 (by decide) ?_
  exact hri _ rfl 1 _ _ _ _ _ (by decide) (⟨rfl, rfl⟩) hP hD hS dX4_end_26

abbrev rmX4_release : Room := { frames := 3, cells := 0, slots := 0, locals := 69 }
set_option maxHeartbeats 4000000 in
set_option maxRecDepth 100000 in
theorem c_release_no (l : Launch) (G : va_G) (cB cI cZ : ClassId) (tc : Nat) (a : Nat → Nat) (rn lv lk ss rw sg od aw tb md ql dr : Nat → Int32) (g : Nat) (r : Nat) (n : Nat) (x1 : Int32) (x2 : Int32) (h : (px_isS x1 && px_isT x2 && !decide (x2 = 0)) = false) : KC l yX4_release wsX4_release rmX4_release G [(cB, .byte), (cI, .int), (cZ, .boolean)] tc [.ref (a 0), .int x1, .int x2] (wd a cB cI cZ (nI g) rn lv (nI r) lk ss rw sg (nI n) od aw tb md ql dr) (fun v w' => v = some (.int (0)) ∧ w' = (wd a cB cI cZ (nI g) rn lv (nI r) lk ss rw sg (nI n) od aw tb md ql dr)) := by
  refine KC.of (cc := cX4_release) (maxL := 3) (ret := some .boolean) (by decide) rfl (Nat.le_of_ble_eq_true rfl) ?_
  intro p e s m below meth c args A Q ls hx hb hml hown hts hK hZ hA hP hD hS hl hri hrv
  have hown : s.vm.findClass RX4 = some m.cls := hown
  have hl : lv_has ls 3 [(0, .ref (a 0)), (1, .int x1), (2, .int x2)] := hl
  have fl_19 := hts (.fieldLink RX4 19 "LockDesk" "holdings" "LLockDesk$Holdings;") (by decide +kernel)
  have fl_33 := hts (.fieldLink RX4 33 "LockDesk" "queue" "LLockDesk$Queue;") (by decide +kernel)
  have hin4 : ∀ w ∈ wsX40, w ∈ wsX4_release := by decide +kernel
  refine lv_iload_n hx hb dX4_release_0 rfl (lv_at hl 1 rfl) ?_
  refine kS (As := [.int x1]) (rest := []) ⟨hx, hb, hml, hown, hts⟩ (c_X4_isSession l G [(cB, .byte), (cI, .int), (cZ, .boolean)] tc (wd a cB cI cZ (nI g) rn lv (nI r) lk ss rw sg (nI n) od aw tb md ql dr) x1) (va_cwS 1 hts gX4_release_X4_isSession rfl rfl rfl (by decide +kernel) ⟨by decide, by decide⟩) hK hZ hA hP hD hS rfl hl.1 rfl (Nat.le_of_ble_eq_true rfl) dX4_release_1 ⟨Nat.zero_le _, Nat.zero_le _⟩ (fun v w' H locs hp hP hD hS => ?_)
  obtain ⟨rfl, rfl⟩ := hp
  have hP : va_P G vwCl (wd a cB cI cZ (nI g) rn lv (nI r) lk ss rw sg (nI n) od aw tb md ql dr) H := hP
  have hD : va_D A (wd a cB cI cZ (nI g) rn lv (nI r) lk ss rw sg (nI n) od aw tb md ql dr) := hD
  refine W.eq (g2 := F0 m 4 ls [.int (fw_b (px_isS x1))]) rfl ?_
  refine lv_if_eq (tgt := 18) hx hb dX4_release_4 (by decide) (fun c_4 => ?_) (fun c_4 => ?_)
  · have c_4 := fw_b0.mp c_4
    refine lv_iconst (v := 0) hx hb dX4_release_18 (by decide) ?_
    exact hri _ rfl 0 _ _ _ _ _ (by decide) (⟨rfl, rfl⟩) hP hD hS dX4_release_19
  · have c_4 := fw_b1.mp c_4
    refine lv_iload_n hx hb dX4_release_7 rfl (lv_at hl 2 rfl) ?_
    refine kS (As := [.int x2]) (rest := []) ⟨hx, hb, hml, hown, hts⟩ (c_X4_isLevel l G [(cB, .byte), (cI, .int), (cZ, .boolean)] tc (wd a cB cI cZ (nI g) rn lv (nI r) lk ss rw sg (nI n) od aw tb md ql dr) x2) (va_cwS 1 hts gX4_release_X4_isLevel rfl rfl rfl (by decide +kernel) ⟨by decide, by decide⟩) hK hZ hA hP hD hS rfl hl.1 rfl (Nat.le_of_ble_eq_true rfl) dX4_release_8 ⟨Nat.zero_le _, Nat.zero_le _⟩ (fun v w' H locs hp hP hD hS => ?_)
    obtain ⟨rfl, rfl⟩ := hp
    have hP : va_P G vwCl (wd a cB cI cZ (nI g) rn lv (nI r) lk ss rw sg (nI n) od aw tb md ql dr) H := hP
    have hD : va_D A (wd a cB cI cZ (nI g) rn lv (nI r) lk ss rw sg (nI n) od aw tb md ql dr) := hD
    refine W.eq (g2 := F0 m 11 ls [.int (fw_b (px_isT x2))]) rfl ?_
    refine lv_if_eq (tgt := 18) hx hb dX4_release_11 (by decide) (fun c_11 => ?_) (fun c_11 => ?_)
    · have c_11 := fw_b0.mp c_11
      refine lv_iconst (v := 0) hx hb dX4_release_18 (by decide) ?_
      exact hri _ rfl 0 _ _ _ _ _ (by decide) (⟨rfl, rfl⟩) hP hD hS dX4_release_19
    · have c_11 := fw_b1.mp c_11
      refine lv_iload_n hx hb dX4_release_14 rfl (lv_at hl 2 rfl) ?_
      refine lv_if_ne (tgt := 20) hx hb dX4_release_15 (by decide) (fun c_15 => False.elim (by simp [c_4, c_11, c_15] at h)) (fun c_15 => ?_)
      refine lv_iconst (v := 0) hx hb dX4_release_18 (by decide) ?_
      exact hri _ rfl 0 _ _ _ _ _ (by decide) (⟨rfl, rfl⟩) hP hD hS dX4_release_19

set_option maxHeartbeats 4000000 in
set_option maxRecDepth 100000 in
theorem c_release_ok (l : Launch) (G : va_G) (cB cI cZ : ClassId) (tc : Nat) (a : Nat → Nat) (rn lv lk ss rw sg od aw tb md ql dr : Nat → Int32) (g : Nat) (r : Nat) (n : Nat) (x : Nat) (z : Nat) (hx6 : x < 6) (hz7 : z < 7) : KC l yX4_release wsX4_release rmX4_release G [(cB, .byte), (cI, .int), (cZ, .boolean)] tc [.ref (a 0), .int (nI x), .int (nI (z + 1))] (wd a cB cI cZ (nI g) rn lv (nI r) lk ss rw sg (nI n) od aw tb md ql dr) (fun v w' => v = some (.int (1)) ∧ w' = (wd a cB cI cZ (nI g) rn (px_rep x (nI (z + 1)) (nI z) lv) (nI r) lk ss rw sg (nI n) od aw tb md (px_low ql x z) dr)) := by
  refine KC.of (cc := cX4_release) (maxL := 3) (ret := some .boolean) (by decide) rfl (Nat.le_of_ble_eq_true rfl) ?_
  intro p e s m below meth c args A Q ls hx hb hml hown hts hK hZ hA hP hD hS hl hri hrv
  have hown : s.vm.findClass RX4 = some m.cls := hown
  have hl : lv_has ls 3 [(0, .ref (a 0)), (1, .int (nI x)), (2, .int (nI (z + 1)))] := hl
  have fl_19 := hts (.fieldLink RX4 19 "LockDesk" "holdings" "LLockDesk$Holdings;") (by decide +kernel)
  have fl_33 := hts (.fieldLink RX4 33 "LockDesk" "queue" "LLockDesk$Queue;") (by decide +kernel)
  have hin4 : ∀ w ∈ wsX40, w ∈ wsX4_release := by decide +kernel
  refine lv_iload_n hx hb dX4_release_0 rfl (lv_at hl 1 rfl) ?_
  refine kS (As := [.int (nI x)]) (rest := []) ⟨hx, hb, hml, hown, hts⟩ (c_X4_isSession l G [(cB, .byte), (cI, .int), (cZ, .boolean)] tc (wd a cB cI cZ (nI g) rn lv (nI r) lk ss rw sg (nI n) od aw tb md ql dr) (nI x)) (va_cwS 1 hts gX4_release_X4_isSession rfl rfl rfl (by decide +kernel) ⟨by decide, by decide⟩) hK hZ hA hP hD hS rfl hl.1 rfl (Nat.le_of_ble_eq_true rfl) dX4_release_1 ⟨Nat.zero_le _, Nat.zero_le _⟩ (fun v w' H locs hp hP hD hS => ?_)
  obtain ⟨rfl, rfl⟩ := hp
  have hP : va_P G vwCl (wd a cB cI cZ (nI g) rn lv (nI r) lk ss rw sg (nI n) od aw tb md ql dr) H := hP
  have hD : va_D A (wd a cB cI cZ (nI g) rn lv (nI r) lk ss rw sg (nI n) od aw tb md ql dr) := hD
  refine W.eq (g2 := F0 m 4 ls [.int (fw_b (px_isS (nI x)))]) rfl ?_
  refine lv_if_eq (tgt := 18) hx hb dX4_release_4 (by decide) (fun c_4 => False.elim (by rw [px_isS_nI x hx6] at c_4; exact absurd c_4 (by decide))) (fun c_4 => ?_)
  have c_4 := fw_b1.mp c_4
  refine lv_iload_n hx hb dX4_release_7 rfl (lv_at hl 2 rfl) ?_
  refine kS (As := [.int (nI (z + 1))]) (rest := []) ⟨hx, hb, hml, hown, hts⟩ (c_X4_isLevel l G [(cB, .byte), (cI, .int), (cZ, .boolean)] tc (wd a cB cI cZ (nI g) rn lv (nI r) lk ss rw sg (nI n) od aw tb md ql dr) (nI (z + 1))) (va_cwS 1 hts gX4_release_X4_isLevel rfl rfl rfl (by decide +kernel) ⟨by decide, by decide⟩) hK hZ hA hP hD hS rfl hl.1 rfl (Nat.le_of_ble_eq_true rfl) dX4_release_8 ⟨Nat.zero_le _, Nat.zero_le _⟩ (fun v w' H locs hp hP hD hS => ?_)
  obtain ⟨rfl, rfl⟩ := hp
  have hP : va_P G vwCl (wd a cB cI cZ (nI g) rn lv (nI r) lk ss rw sg (nI n) od aw tb md ql dr) H := hP
  have hD : va_D A (wd a cB cI cZ (nI g) rn lv (nI r) lk ss rw sg (nI n) od aw tb md ql dr) := hD
  refine W.eq (g2 := F0 m 11 ls [.int (fw_b (px_isT (nI (z + 1))))]) rfl ?_
  refine lv_if_eq (tgt := 18) hx hb dX4_release_11 (by decide) (fun c_11 => False.elim (by rw [px_isT_nI (z + 1) (by omega)] at c_11; exact absurd c_11 (by decide))) (fun c_11 => ?_)
  have c_11 := fw_b1.mp c_11
  refine lv_iload_n hx hb dX4_release_14 rfl (lv_at hl 2 rfl) ?_
  refine lv_if_ne (tgt := 20) hx hb dX4_release_15 (by decide) (fun c_15 => ?_) (fun c_15 => False.elim (nI_ne0 (Nat.succ_pos z) (by omega) c_15))
  refine lv_aload_n hx hb dX4_release_20 rfl (lv_at hl 0 rfl) ?_
  refine va_get (D := G) (ci := 4) (v := .ref (a 2)) (C := RX4) (T := TX4) (N := 4) hx hb hts hin4 hown hK hP 0 rfl rfl 1 (by decide) fl_19 (fun _ h9 => h9) rfl dX4_release_21 ?_
  refine lv_iload_n hx hb dX4_release_24 rfl (lv_at hl 1 rfl) ?_
  refine lv_iload_n hx hb dX4_release_25 rfl (lv_at hl 2 rfl) ?_
  refine kV (As := [.int (nI x), .int (nI (z + 1))]) (rest := []) ⟨hx, hb, hml, hown, hts⟩ (c_X0_lower l G cB cI cZ tc a (nI g) (nI r) (nI n) rn lv lk ss rw sg od aw tb md ql dr x z hx6 hz7) (cwV 2 hts gX4_release_X0_lower rfl rfl rfl (by decide +kernel) ⟨by decide, by decide⟩) hK hZ hA hP hD hS 2 0 rfl rfl rfl hl.1 rfl (Nat.le_of_ble_eq_true rfl) dX4_release_26 ⟨Nat.zero_le _, Nat.zero_le _⟩ (fun v w' H locs hp hP hD hS => ?_)
  obtain ⟨rfl, rfl⟩ := hp
  have hP : va_P G vwCl (wd a cB cI cZ (nI g) rn (px_rep x (nI (z + 1)) (nI z) lv) (nI r) lk ss rw sg (nI n) od aw tb md ql dr) H := hP
  have hD : va_D A (wd a cB cI cZ (nI g) rn (px_rep x (nI (z + 1)) (nI z) lv) (nI r) lk ss rw sg (nI n) od aw tb md ql dr) := hD
  refine W.eq (g2 := F0 m 29 ls []) rfl ?_
  refine lv_aload_n hx hb dX4_release_29 rfl (lv_at hl 0 rfl) ?_
  refine va_get (D := G) (ci := 4) (v := .ref (a 4)) (C := RX4) (T := TX4) (N := 4) hx hb hts hin4 hown hK hP 0 rfl rfl 3 (by decide) fl_33 (fun _ h9 => h9) rfl dX4_release_30 ?_
  refine lv_iload_n hx hb dX4_release_33 rfl (lv_at hl 1 rfl) ?_
  refine lv_iload_n hx hb dX4_release_34 rfl (lv_at hl 2 rfl) ?_
  refine kV (As := [.int (nI x), .int (nI (z + 1))]) (rest := []) ⟨hx, hb, hml, hown, hts⟩ (c_X2_lower l G cB cI cZ tc a (nI g) (nI r) (nI n) rn (px_rep x (nI (z + 1)) (nI z) lv) lk ss rw sg od aw tb md ql dr x z hx6) (cwV 2 hts gX4_release_X2_lower rfl rfl rfl (by decide +kernel) ⟨by decide, by decide⟩) hK hZ hA hP hD hS 4 2 rfl rfl rfl hl.1 rfl (Nat.le_of_ble_eq_true rfl) dX4_release_35 ⟨Nat.zero_le _, Nat.zero_le _⟩ (fun v w' H locs hp hP hD hS => ?_)
  obtain ⟨rfl, rfl⟩ := hp
  have hP : va_P G vwCl (wd a cB cI cZ (nI g) rn (px_rep x (nI (z + 1)) (nI z) lv) (nI r) lk ss rw sg (nI n) od aw tb md (px_low ql x z) dr) H := hP
  have hD : va_D A (wd a cB cI cZ (nI g) rn (px_rep x (nI (z + 1)) (nI z) lv) (nI r) lk ss rw sg (nI n) od aw tb md (px_low ql x z) dr) := hD
  refine W.eq (g2 := F0 m 38 ls []) rfl ?_
  refine lv_iconst (v := 1) hx hb dX4_release_38 (by decide) ?_
  exact hri _ rfl 1 _ _ _ _ _ (by decide) (⟨rfl, rfl⟩) hP hD hS dX4_release_39

abbrev rmX4_drop : Room := { frames := 2, cells := 0, slots := 0, locals := 45 }
set_option maxHeartbeats 4000000 in
set_option maxRecDepth 100000 in
theorem c_drop_no (l : Launch) (G : va_G) (cB cI cZ : ClassId) (tc : Nat) (a : Nat → Nat) (rn lv lk ss rw sg od aw tb md ql dr : Nat → Int32) (g : Nat) (r : Nat) (n : Nat) (x1 : Int32) (h : px_isT x1 = false) : KC l yX4_drop wsX4_drop rmX4_drop G [(cB, .byte), (cI, .int), (cZ, .boolean)] tc [.ref (a 0), .int x1] (wd a cB cI cZ (nI g) rn lv (nI r) lk ss rw sg (nI n) od aw tb md ql dr) (fun v w' => v = some (.int (0)) ∧ w' = (wd a cB cI cZ (nI g) rn lv (nI r) lk ss rw sg (nI n) od aw tb md ql dr)) := by
  refine KC.of (cc := cX4_drop) (maxL := 2) (ret := some .boolean) (by decide) rfl (Nat.le_of_ble_eq_true rfl) ?_
  intro p e s m below meth c args A Q ls hx hb hml hown hts hK hZ hA hP hD hS hl hri hrv
  have hown : s.vm.findClass RX4 = some m.cls := hown
  have hl : lv_has ls 2 [(0, .ref (a 0)), (1, .int x1)] := hl
  have fl_19 := hts (.fieldLink RX4 19 "LockDesk" "holdings" "LLockDesk$Holdings;") (by decide +kernel)
  have fl_33 := hts (.fieldLink RX4 33 "LockDesk" "queue" "LLockDesk$Queue;") (by decide +kernel)
  have hin4 : ∀ w ∈ wsX40, w ∈ wsX4_drop := by decide +kernel
  refine lv_iload_n hx hb dX4_drop_0 rfl (lv_at hl 1 rfl) ?_
  refine kS (As := [.int x1]) (rest := []) ⟨hx, hb, hml, hown, hts⟩ (c_X4_isTable l G [(cB, .byte), (cI, .int), (cZ, .boolean)] tc (wd a cB cI cZ (nI g) rn lv (nI r) lk ss rw sg (nI n) od aw tb md ql dr) x1) (va_cwS 1 hts gX4_drop_X4_isTable rfl rfl rfl (by decide +kernel) ⟨by decide, by decide⟩) hK hZ hA hP hD hS rfl hl.1 rfl (Nat.le_of_ble_eq_true rfl) dX4_drop_1 ⟨Nat.zero_le _, Nat.zero_le _⟩ (fun v w' H locs hp hP hD hS => ?_)
  obtain ⟨rfl, rfl⟩ := hp
  have hP : va_P G vwCl (wd a cB cI cZ (nI g) rn lv (nI r) lk ss rw sg (nI n) od aw tb md ql dr) H := hP
  have hD : va_D A (wd a cB cI cZ (nI g) rn lv (nI r) lk ss rw sg (nI n) od aw tb md ql dr) := hD
  refine W.eq (g2 := F0 m 4 ls [.int (fw_b (px_isT x1))]) rfl ?_
  refine lv_if_ne (tgt := 9) hx hb dX4_drop_4 (by decide) (fun c_4 => False.elim (by rw [h] at c_4; exact c_4 rfl)) (fun c_4 => ?_)
  have c_4 := fw_b0.mp c_4
  refine lv_iconst (v := 0) hx hb dX4_drop_7 (by decide) ?_
  exact hri _ rfl 0 _ _ _ _ _ (by decide) (⟨rfl, rfl⟩) hP hD hS dX4_drop_8

set_option maxHeartbeats 4000000 in
set_option maxRecDepth 100000 in
theorem c_drop_ok (l : Launch) (G : va_G) (cB cI cZ : ClassId) (tc : Nat) (a : Nat → Nat) (rn lv lk ss rw sg od aw tb md ql dr : Nat → Int32) (g : Nat) (r : Nat) (n : Nat) (y : Nat) (hy8 : y < 8) (hn6 : n ≤ 6) (hod : ∀ k, k < n → ∃ j : Nat, j < 6 ∧ od k = nI j) : KC l yX4_drop wsX4_drop rmX4_drop G [(cB, .byte), (cI, .int), (cZ, .boolean)] tc [.ref (a 0), .int (nI y)] (wd a cB cI cZ (nI g) rn lv (nI r) lk ss rw sg (nI n) od aw tb md ql dr) (fun v w' => v = some (.int (1)) ∧ w' = (wd a cB cI cZ (nI g) rn (px_fg y lv) (nI r) lk ss rw sg (nI n) od aw tb md ql (px_md n od aw tb dr (nI y)))) := by
  refine KC.of (cc := cX4_drop) (maxL := 2) (ret := some .boolean) (by decide) rfl (Nat.le_of_ble_eq_true rfl) ?_
  intro p e s m below meth c args A Q ls hx hb hml hown hts hK hZ hA hP hD hS hl hri hrv
  have hown : s.vm.findClass RX4 = some m.cls := hown
  have hl : lv_has ls 2 [(0, .ref (a 0)), (1, .int (nI y))] := hl
  have fl_19 := hts (.fieldLink RX4 19 "LockDesk" "holdings" "LLockDesk$Holdings;") (by decide +kernel)
  have fl_33 := hts (.fieldLink RX4 33 "LockDesk" "queue" "LLockDesk$Queue;") (by decide +kernel)
  have hin4 : ∀ w ∈ wsX40, w ∈ wsX4_drop := by decide +kernel
  refine lv_iload_n hx hb dX4_drop_0 rfl (lv_at hl 1 rfl) ?_
  refine kS (As := [.int (nI y)]) (rest := []) ⟨hx, hb, hml, hown, hts⟩ (c_X4_isTable l G [(cB, .byte), (cI, .int), (cZ, .boolean)] tc (wd a cB cI cZ (nI g) rn lv (nI r) lk ss rw sg (nI n) od aw tb md ql dr) (nI y)) (va_cwS 1 hts gX4_drop_X4_isTable rfl rfl rfl (by decide +kernel) ⟨by decide, by decide⟩) hK hZ hA hP hD hS rfl hl.1 rfl (Nat.le_of_ble_eq_true rfl) dX4_drop_1 ⟨Nat.zero_le _, Nat.zero_le _⟩ (fun v w' H locs hp hP hD hS => ?_)
  obtain ⟨rfl, rfl⟩ := hp
  have hP : va_P G vwCl (wd a cB cI cZ (nI g) rn lv (nI r) lk ss rw sg (nI n) od aw tb md ql dr) H := hP
  have hD : va_D A (wd a cB cI cZ (nI g) rn lv (nI r) lk ss rw sg (nI n) od aw tb md ql dr) := hD
  refine W.eq (g2 := F0 m 4 ls [.int (fw_b (px_isT (nI y)))]) rfl ?_
  refine lv_if_ne (tgt := 9) hx hb dX4_drop_4 (by decide) (fun c_4 => ?_) (fun c_4 => False.elim (by rw [px_isT_nI y hy8] at c_4; exact absurd c_4 (by decide)))
  have c_4 := fw_b1.mp c_4
  refine lv_aload_n hx hb dX4_drop_9 rfl (lv_at hl 0 rfl) ?_
  refine va_get (D := G) (ci := 4) (v := .ref (a 2)) (C := RX4) (T := TX4) (N := 4) hx hb hts hin4 hown hK hP 0 rfl rfl 1 (by decide) fl_19 (fun _ h9 => h9) rfl dX4_drop_10 ?_
  refine lv_iload_n hx hb dX4_drop_13 rfl (lv_at hl 1 rfl) ?_
  refine kV (As := [.int (nI y)]) (rest := []) ⟨hx, hb, hml, hown, hts⟩ (c_X0_forgetTable l G cB cI cZ tc a (nI g) (nI r) (nI n) rn lv lk ss rw sg od aw tb md ql dr y hy8) (cwV 1 hts gX4_drop_X0_forgetTable rfl rfl rfl (by decide +kernel) ⟨by decide, by decide⟩) hK hZ hA hP hD hS 2 0 rfl rfl rfl hl.1 rfl (Nat.le_of_ble_eq_true rfl) dX4_drop_14 ⟨Nat.zero_le _, Nat.zero_le _⟩ (fun v w' H locs hp hP hD hS => ?_)
  obtain ⟨rfl, rfl⟩ := hp
  have hP : va_P G vwCl (wd a cB cI cZ (nI g) rn (px_fg y lv) (nI r) lk ss rw sg (nI n) od aw tb md ql dr) H := hP
  have hD : va_D A (wd a cB cI cZ (nI g) rn (px_fg y lv) (nI r) lk ss rw sg (nI n) od aw tb md ql dr) := hD
  refine W.eq (g2 := F0 m 17 ls []) rfl ?_
  refine lv_aload_n hx hb dX4_drop_17 rfl (lv_at hl 0 rfl) ?_
  refine va_get (D := G) (ci := 4) (v := .ref (a 4)) (C := RX4) (T := TX4) (N := 4) hx hb hts hin4 hown hK hP 0 rfl rfl 3 (by decide) fl_33 (fun _ h9 => h9) rfl dX4_drop_18 ?_
  refine lv_iload_n hx hb dX4_drop_21 rfl (lv_at hl 1 rfl) ?_
  refine kV (As := [.int (nI y)]) (rest := []) ⟨hx, hb, hml, hown, hts⟩ (c_X2_markDropped l G cB cI cZ tc a (nI g) (nI r) rn (px_fg y lv) lk ss rw sg od aw tb md ql dr n (nI y) hn6 hod) (cwV 1 hts gX4_drop_X2_markDropped rfl rfl rfl (by decide +kernel) ⟨by decide, by decide⟩) hK hZ hA hP hD hS 4 2 rfl rfl rfl hl.1 rfl (Nat.le_of_ble_eq_true rfl) dX4_drop_22 ⟨Nat.zero_le _, Nat.zero_le _⟩ (fun v w' H locs hp hP hD hS => ?_)
  obtain ⟨rfl, rfl⟩ := hp
  have hP : va_P G vwCl (wd a cB cI cZ (nI g) rn (px_fg y lv) (nI r) lk ss rw sg (nI n) od aw tb md ql (px_md n od aw tb dr (nI y))) H := hP
  have hD : va_D A (wd a cB cI cZ (nI g) rn (px_fg y lv) (nI r) lk ss rw sg (nI n) od aw tb md ql (px_md n od aw tb dr (nI y))) := hD
  refine W.eq (g2 := F0 m 25 ls []) rfl ?_
  refine lv_iconst (v := 1) hx hb dX4_drop_25 (by decide) ?_
  exact hri _ rfl 1 _ _ _ _ _ (by decide) (⟨rfl, rfl⟩) hP hD hS dX4_drop_26

abbrev rmX4_clear : Room := { frames := 3, cells := 0, slots := 0, locals := 67 }
set_option maxHeartbeats 4000000 in
set_option maxRecDepth 100000 in
theorem c_clear_no (l : Launch) (G : va_G) (cB cI cZ : ClassId) (tc : Nat) (a : Nat → Nat) (rn lv lk ss rw sg od aw tb md ql dr : Nat → Int32) (g : Nat) (r : Nat) (n : Nat) (x1 : Int32) (h : px_isR x1 = false) : KC l yX4_clear wsX4_clear rmX4_clear G [(cB, .byte), (cI, .int), (cZ, .boolean)] tc [.ref (a 0), .int x1] (wd a cB cI cZ (nI g) rn lv (nI r) lk ss rw sg (nI n) od aw tb md ql dr) (fun v w' => v = some (.int (0)) ∧ w' = (wd a cB cI cZ (nI g) rn lv (nI r) lk ss rw sg (nI n) od aw tb md ql dr)) := by
  refine KC.of (cc := cX4_clear) (maxL := 2) (ret := some .boolean) (by decide) rfl (Nat.le_of_ble_eq_true rfl) ?_
  intro p e s m below meth c args A Q ls hx hb hml hown hts hK hZ hA hP hD hS hl hri hrv
  have hown : s.vm.findClass RX4 = some m.cls := hown
  have hl : lv_has ls 2 [(0, .ref (a 0)), (1, .int x1)] := hl
  have fl_26 := hts (.fieldLink RX4 26 "LockDesk" "rowLocks" "LLockDesk$RowLocks;") (by decide +kernel)
  have hin4 : ∀ w ∈ wsX40, w ∈ wsX4_clear := by decide +kernel
  refine lv_iload_n hx hb dX4_clear_0 rfl (lv_at hl 1 rfl) ?_
  refine kS (As := [.int x1]) (rest := []) ⟨hx, hb, hml, hown, hts⟩ (c_X4_isRow l G [(cB, .byte), (cI, .int), (cZ, .boolean)] tc (wd a cB cI cZ (nI g) rn lv (nI r) lk ss rw sg (nI n) od aw tb md ql dr) x1) (va_cwS 1 hts gX4_clear_X4_isRow rfl rfl rfl (by decide +kernel) ⟨by decide, by decide⟩) hK hZ hA hP hD hS rfl hl.1 rfl (Nat.le_of_ble_eq_true rfl) dX4_clear_1 ⟨Nat.zero_le _, Nat.zero_le _⟩ (fun v w' H locs hp hP hD hS => ?_)
  obtain ⟨rfl, rfl⟩ := hp
  have hP : va_P G vwCl (wd a cB cI cZ (nI g) rn lv (nI r) lk ss rw sg (nI n) od aw tb md ql dr) H := hP
  have hD : va_D A (wd a cB cI cZ (nI g) rn lv (nI r) lk ss rw sg (nI n) od aw tb md ql dr) := hD
  refine W.eq (g2 := F0 m 4 ls [.int (fw_b (px_isR x1))]) rfl ?_
  refine lv_if_ne (tgt := 9) hx hb dX4_clear_4 (by decide) (fun c_4 => False.elim (by rw [h] at c_4; exact c_4 rfl)) (fun c_4 => ?_)
  have c_4 := fw_b0.mp c_4
  refine lv_iconst (v := 0) hx hb dX4_clear_7 (by decide) ?_
  exact hri _ rfl 0 _ _ _ _ _ (by decide) (⟨rfl, rfl⟩) hP hD hS dX4_clear_8

set_option maxHeartbeats 4000000 in
set_option maxRecDepth 100000 in
theorem c_clear_ok (l : Launch) (G : va_G) (cB cI cZ : ClassId) (tc : Nat) (a : Nat → Nat) (rn lv lk ss rw sg od aw tb md ql dr : Nat → Int32) (g : Nat) (r : Nat) (n : Nat) (x1 : Int32) (h : px_isR x1 = true) (hr5 : r ≤ 512) : KC l yX4_clear wsX4_clear rmX4_clear G [(cB, .byte), (cI, .int), (cZ, .boolean)] tc [.ref (a 0), .int x1] (wd a cB cI cZ (nI g) rn lv (nI r) lk ss rw sg (nI n) od aw tb md ql dr) (fun v w' => v = some (.int (1)) ∧ w' = (wd a cB cI cZ (nI g) rn lv (nI (px_fw (fun q => q.2.2.1) x1 r (lk, ss, rw, sg)).1) ((px_fw (fun q => q.2.2.1) x1 r (lk, ss, rw, sg)).2.1) ((px_fw (fun q => q.2.2.1) x1 r (lk, ss, rw, sg)).2.2.1) ((px_fw (fun q => q.2.2.1) x1 r (lk, ss, rw, sg)).2.2.2.1) ((px_fw (fun q => q.2.2.1) x1 r (lk, ss, rw, sg)).2.2.2.2) (nI n) od aw tb md ql dr)) := by
  refine KC.of (cc := cX4_clear) (maxL := 2) (ret := some .boolean) (by decide) rfl (Nat.le_of_ble_eq_true rfl) ?_
  intro p e s m below meth c args A Q ls hx hb hml hown hts hK hZ hA hP hD hS hl hri hrv
  have hown : s.vm.findClass RX4 = some m.cls := hown
  have hl : lv_has ls 2 [(0, .ref (a 0)), (1, .int x1)] := hl
  have fl_26 := hts (.fieldLink RX4 26 "LockDesk" "rowLocks" "LLockDesk$RowLocks;") (by decide +kernel)
  have hin4 : ∀ w ∈ wsX40, w ∈ wsX4_clear := by decide +kernel
  refine lv_iload_n hx hb dX4_clear_0 rfl (lv_at hl 1 rfl) ?_
  refine kS (As := [.int x1]) (rest := []) ⟨hx, hb, hml, hown, hts⟩ (c_X4_isRow l G [(cB, .byte), (cI, .int), (cZ, .boolean)] tc (wd a cB cI cZ (nI g) rn lv (nI r) lk ss rw sg (nI n) od aw tb md ql dr) x1) (va_cwS 1 hts gX4_clear_X4_isRow rfl rfl rfl (by decide +kernel) ⟨by decide, by decide⟩) hK hZ hA hP hD hS rfl hl.1 rfl (Nat.le_of_ble_eq_true rfl) dX4_clear_1 ⟨Nat.zero_le _, Nat.zero_le _⟩ (fun v w' H locs hp hP hD hS => ?_)
  obtain ⟨rfl, rfl⟩ := hp
  have hP : va_P G vwCl (wd a cB cI cZ (nI g) rn lv (nI r) lk ss rw sg (nI n) od aw tb md ql dr) H := hP
  have hD : va_D A (wd a cB cI cZ (nI g) rn lv (nI r) lk ss rw sg (nI n) od aw tb md ql dr) := hD
  refine W.eq (g2 := F0 m 4 ls [.int (fw_b (px_isR x1))]) rfl ?_
  refine lv_if_ne (tgt := 9) hx hb dX4_clear_4 (by decide) (fun c_4 => ?_) (fun c_4 => False.elim (by rw [h] at c_4; exact absurd c_4 (by decide)))
  have c_4 := fw_b1.mp c_4
  refine lv_aload_n hx hb dX4_clear_9 rfl (lv_at hl 0 rfl) ?_
  refine va_get (D := G) (ci := 4) (v := .ref (a 3)) (C := RX4) (T := TX4) (N := 4) hx hb hts hin4 hown hK hP 0 rfl rfl 2 (by decide) fl_26 (fun _ h9 => h9) rfl dX4_clear_10 ?_
  refine lv_iload_n hx hb dX4_clear_13 rfl (lv_at hl 1 rfl) ?_
  refine kV (As := [.int x1]) (rest := []) ⟨hx, hb, hml, hown, hts⟩ (c_X3_forgetRow l G cB cI cZ tc a (nI g) (nI n) rn lv lk ss rw sg od aw tb md ql dr r x1 hr5) (cwV 1 hts gX4_clear_X3_forgetRow rfl rfl rfl (by decide +kernel) ⟨by decide, by decide⟩) hK hZ hA hP hD hS 3 3 rfl rfl rfl hl.1 rfl (Nat.le_of_ble_eq_true rfl) dX4_clear_14 ⟨Nat.zero_le _, Nat.zero_le _⟩ (fun v w' H locs hp hP hD hS => ?_)
  obtain ⟨rfl, rfl⟩ := hp
  have hP : va_P G vwCl (wd a cB cI cZ (nI g) rn lv (nI (px_fw (fun q => q.2.2.1) x1 r (lk, ss, rw, sg)).1) ((px_fw (fun q => q.2.2.1) x1 r (lk, ss, rw, sg)).2.1) ((px_fw (fun q => q.2.2.1) x1 r (lk, ss, rw, sg)).2.2.1) ((px_fw (fun q => q.2.2.1) x1 r (lk, ss, rw, sg)).2.2.2.1) ((px_fw (fun q => q.2.2.1) x1 r (lk, ss, rw, sg)).2.2.2.2) (nI n) od aw tb md ql dr) H := hP
  have hD : va_D A (wd a cB cI cZ (nI g) rn lv (nI (px_fw (fun q => q.2.2.1) x1 r (lk, ss, rw, sg)).1) ((px_fw (fun q => q.2.2.1) x1 r (lk, ss, rw, sg)).2.1) ((px_fw (fun q => q.2.2.1) x1 r (lk, ss, rw, sg)).2.2.1) ((px_fw (fun q => q.2.2.1) x1 r (lk, ss, rw, sg)).2.2.2.1) ((px_fw (fun q => q.2.2.1) x1 r (lk, ss, rw, sg)).2.2.2.2) (nI n) od aw tb md ql dr) := hD
  refine W.eq (g2 := F0 m 17 ls []) rfl ?_
  refine lv_iconst (v := 1) hx hb dX4_clear_17 (by decide) ?_
  exact hri _ rfl 1 _ _ _ _ _ (by decide) (⟨rfl, rfl⟩) hP hD hS dX4_clear_18

abbrev rmX4_holds : Room := { frames := 2, cells := 0, slots := 0, locals := 45 }
set_option maxHeartbeats 4000000 in
set_option maxRecDepth 100000 in
theorem c_holds_no (l : Launch) (G : va_G) (cB cI cZ : ClassId) (tc : Nat) (a : Nat → Nat) (rn lv lk ss rw sg od aw tb md ql dr : Nat → Int32) (g : Nat) (r : Nat) (n : Nat) (x1 : Int32) (x2 : Int32) (x3 : Int32) (h : (px_isS x1 && px_isT x2 && px_isM x3) = false) : KC l yX4_holds wsX4_holds rmX4_holds G [(cB, .byte), (cI, .int), (cZ, .boolean)] tc [.ref (a 0), .int x1, .int x2, .int x3] (wd a cB cI cZ (nI g) rn lv (nI r) lk ss rw sg (nI n) od aw tb md ql dr) (fun v w' => v = some (.int (-1)) ∧ w' = (wd a cB cI cZ (nI g) rn lv (nI r) lk ss rw sg (nI n) od aw tb md ql dr)) := by
  refine KC.of (cc := cX4_holds) (maxL := 4) (ret := some .int) (by decide) rfl (Nat.le_of_ble_eq_true rfl) ?_
  intro p e s m below meth c args A Q ls hx hb hml hown hts hK hZ hA hP hD hS hl hri hrv
  have hown : s.vm.findClass RX4 = some m.cls := hown
  have hl : lv_has ls 4 [(0, .ref (a 0)), (1, .int x1), (2, .int x2), (3, .int x3)] := hl
  have fl_19 := hts (.fieldLink RX4 19 "LockDesk" "holdings" "LLockDesk$Holdings;") (by decide +kernel)
  have hin4 : ∀ w ∈ wsX40, w ∈ wsX4_holds := by decide +kernel
  refine lv_iload_n hx hb dX4_holds_0 rfl (lv_at hl 1 rfl) ?_
  refine kS (As := [.int x1]) (rest := []) ⟨hx, hb, hml, hown, hts⟩ (c_X4_isSession l G [(cB, .byte), (cI, .int), (cZ, .boolean)] tc (wd a cB cI cZ (nI g) rn lv (nI r) lk ss rw sg (nI n) od aw tb md ql dr) x1) (va_cwS 1 hts gX4_holds_X4_isSession rfl rfl rfl (by decide +kernel) ⟨by decide, by decide⟩) hK hZ hA hP hD hS rfl hl.1 rfl (Nat.le_of_ble_eq_true rfl) dX4_holds_1 ⟨Nat.zero_le _, Nat.zero_le _⟩ (fun v w' H locs hp hP hD hS => ?_)
  obtain ⟨rfl, rfl⟩ := hp
  have hP : va_P G vwCl (wd a cB cI cZ (nI g) rn lv (nI r) lk ss rw sg (nI n) od aw tb md ql dr) H := hP
  have hD : va_D A (wd a cB cI cZ (nI g) rn lv (nI r) lk ss rw sg (nI n) od aw tb md ql dr) := hD
  refine W.eq (g2 := F0 m 4 ls [.int (fw_b (px_isS x1))]) rfl ?_
  refine lv_if_eq (tgt := 21) hx hb dX4_holds_4 (by decide) (fun c_4 => ?_) (fun c_4 => ?_)
  · have c_4 := fw_b0.mp c_4
    refine lv_iconst (v := (-1)) hx hb dX4_holds_21 (by decide) ?_
    exact hri _ rfl (-1) _ _ _ _ _ (rfl) (⟨rfl, rfl⟩) hP hD hS dX4_holds_22
  · have c_4 := fw_b1.mp c_4
    refine lv_iload_n hx hb dX4_holds_7 rfl (lv_at hl 2 rfl) ?_
    refine kS (As := [.int x2]) (rest := []) ⟨hx, hb, hml, hown, hts⟩ (c_X4_isTable l G [(cB, .byte), (cI, .int), (cZ, .boolean)] tc (wd a cB cI cZ (nI g) rn lv (nI r) lk ss rw sg (nI n) od aw tb md ql dr) x2) (va_cwS 1 hts gX4_holds_X4_isTable rfl rfl rfl (by decide +kernel) ⟨by decide, by decide⟩) hK hZ hA hP hD hS rfl hl.1 rfl (Nat.le_of_ble_eq_true rfl) dX4_holds_8 ⟨Nat.zero_le _, Nat.zero_le _⟩ (fun v w' H locs hp hP hD hS => ?_)
    obtain ⟨rfl, rfl⟩ := hp
    have hP : va_P G vwCl (wd a cB cI cZ (nI g) rn lv (nI r) lk ss rw sg (nI n) od aw tb md ql dr) H := hP
    have hD : va_D A (wd a cB cI cZ (nI g) rn lv (nI r) lk ss rw sg (nI n) od aw tb md ql dr) := hD
    refine W.eq (g2 := F0 m 11 ls [.int (fw_b (px_isT x2))]) rfl ?_
    refine lv_if_eq (tgt := 21) hx hb dX4_holds_11 (by decide) (fun c_11 => ?_) (fun c_11 => ?_)
    · have c_11 := fw_b0.mp c_11
      refine lv_iconst (v := (-1)) hx hb dX4_holds_21 (by decide) ?_
      exact hri _ rfl (-1) _ _ _ _ _ (rfl) (⟨rfl, rfl⟩) hP hD hS dX4_holds_22
    · have c_11 := fw_b1.mp c_11
      refine lv_iload_n hx hb dX4_holds_14 rfl (lv_at hl 3 rfl) ?_
      refine kS (As := [.int x3]) (rest := []) ⟨hx, hb, hml, hown, hts⟩ (c_X4_isMode l G [(cB, .byte), (cI, .int), (cZ, .boolean)] tc (wd a cB cI cZ (nI g) rn lv (nI r) lk ss rw sg (nI n) od aw tb md ql dr) x3) (va_cwS 1 hts gX4_holds_X4_isMode rfl rfl rfl (by decide +kernel) ⟨by decide, by decide⟩) hK hZ hA hP hD hS rfl hl.1 rfl (Nat.le_of_ble_eq_true rfl) dX4_holds_15 ⟨Nat.zero_le _, Nat.zero_le _⟩ (fun v w' H locs hp hP hD hS => ?_)
      obtain ⟨rfl, rfl⟩ := hp
      have hP : va_P G vwCl (wd a cB cI cZ (nI g) rn lv (nI r) lk ss rw sg (nI n) od aw tb md ql dr) H := hP
      have hD : va_D A (wd a cB cI cZ (nI g) rn lv (nI r) lk ss rw sg (nI n) od aw tb md ql dr) := hD
      refine W.eq (g2 := F0 m 18 ls [.int (fw_b (px_isM x3))]) rfl ?_
      refine lv_if_ne (tgt := 23) hx hb dX4_holds_18 (by decide) (fun c_18 => False.elim (by have c_18 := fw_b1.mp c_18; simp [c_4, c_11, c_18] at h)) (fun c_18 => ?_)
      have c_18 := fw_b0.mp c_18
      refine lv_iconst (v := (-1)) hx hb dX4_holds_21 (by decide) ?_
      exact hri _ rfl (-1) _ _ _ _ _ (rfl) (⟨rfl, rfl⟩) hP hD hS dX4_holds_22

set_option maxHeartbeats 4000000 in
set_option maxRecDepth 100000 in
theorem c_holds_ok (l : Launch) (G : va_G) (cB cI cZ : ClassId) (tc : Nat) (a : Nat → Nat) (rn lv lk ss rw sg od aw tb md ql dr : Nat → Int32) (g : Nat) (r : Nat) (n : Nat) (x : Nat) (y : Nat) (k : Nat) (hx6 : x < 6) (hy8 : y < 8) (hk8 : k < 8) : KC l yX4_holds wsX4_holds rmX4_holds G [(cB, .byte), (cI, .int), (cZ, .boolean)] tc [.ref (a 0), .int (nI x), .int (nI y), .int (nI (k + 1))] (wd a cB cI cZ (nI g) rn lv (nI r) lk ss rw sg (nI n) od aw tb md ql dr) (fun v w' => v = some (.int (lv (64 * x + 8 * y + k))) ∧ w' = (wd a cB cI cZ (nI g) rn lv (nI r) lk ss rw sg (nI n) od aw tb md ql dr)) := by
  refine KC.of (cc := cX4_holds) (maxL := 4) (ret := some .int) (by decide) rfl (Nat.le_of_ble_eq_true rfl) ?_
  intro p e s m below meth c args A Q ls hx hb hml hown hts hK hZ hA hP hD hS hl hri hrv
  have hown : s.vm.findClass RX4 = some m.cls := hown
  have hl : lv_has ls 4 [(0, .ref (a 0)), (1, .int (nI x)), (2, .int (nI y)), (3, .int (nI (k + 1)))] := hl
  have fl_19 := hts (.fieldLink RX4 19 "LockDesk" "holdings" "LLockDesk$Holdings;") (by decide +kernel)
  have hin4 : ∀ w ∈ wsX40, w ∈ wsX4_holds := by decide +kernel
  refine lv_iload_n hx hb dX4_holds_0 rfl (lv_at hl 1 rfl) ?_
  refine kS (As := [.int (nI x)]) (rest := []) ⟨hx, hb, hml, hown, hts⟩ (c_X4_isSession l G [(cB, .byte), (cI, .int), (cZ, .boolean)] tc (wd a cB cI cZ (nI g) rn lv (nI r) lk ss rw sg (nI n) od aw tb md ql dr) (nI x)) (va_cwS 1 hts gX4_holds_X4_isSession rfl rfl rfl (by decide +kernel) ⟨by decide, by decide⟩) hK hZ hA hP hD hS rfl hl.1 rfl (Nat.le_of_ble_eq_true rfl) dX4_holds_1 ⟨Nat.zero_le _, Nat.zero_le _⟩ (fun v w' H locs hp hP hD hS => ?_)
  obtain ⟨rfl, rfl⟩ := hp
  have hP : va_P G vwCl (wd a cB cI cZ (nI g) rn lv (nI r) lk ss rw sg (nI n) od aw tb md ql dr) H := hP
  have hD : va_D A (wd a cB cI cZ (nI g) rn lv (nI r) lk ss rw sg (nI n) od aw tb md ql dr) := hD
  refine W.eq (g2 := F0 m 4 ls [.int (fw_b (px_isS (nI x)))]) rfl ?_
  refine lv_if_eq (tgt := 21) hx hb dX4_holds_4 (by decide) (fun c_4 => False.elim (by rw [px_isS_nI x hx6] at c_4; exact absurd c_4 (by decide))) (fun c_4 => ?_)
  have c_4 := fw_b1.mp c_4
  refine lv_iload_n hx hb dX4_holds_7 rfl (lv_at hl 2 rfl) ?_
  refine kS (As := [.int (nI y)]) (rest := []) ⟨hx, hb, hml, hown, hts⟩ (c_X4_isTable l G [(cB, .byte), (cI, .int), (cZ, .boolean)] tc (wd a cB cI cZ (nI g) rn lv (nI r) lk ss rw sg (nI n) od aw tb md ql dr) (nI y)) (va_cwS 1 hts gX4_holds_X4_isTable rfl rfl rfl (by decide +kernel) ⟨by decide, by decide⟩) hK hZ hA hP hD hS rfl hl.1 rfl (Nat.le_of_ble_eq_true rfl) dX4_holds_8 ⟨Nat.zero_le _, Nat.zero_le _⟩ (fun v w' H locs hp hP hD hS => ?_)
  obtain ⟨rfl, rfl⟩ := hp
  have hP : va_P G vwCl (wd a cB cI cZ (nI g) rn lv (nI r) lk ss rw sg (nI n) od aw tb md ql dr) H := hP
  have hD : va_D A (wd a cB cI cZ (nI g) rn lv (nI r) lk ss rw sg (nI n) od aw tb md ql dr) := hD
  refine W.eq (g2 := F0 m 11 ls [.int (fw_b (px_isT (nI y)))]) rfl ?_
  refine lv_if_eq (tgt := 21) hx hb dX4_holds_11 (by decide) (fun c_11 => False.elim (by rw [px_isT_nI y hy8] at c_11; exact absurd c_11 (by decide))) (fun c_11 => ?_)
  have c_11 := fw_b1.mp c_11
  refine lv_iload_n hx hb dX4_holds_14 rfl (lv_at hl 3 rfl) ?_
  refine kS (As := [.int (nI (k + 1))]) (rest := []) ⟨hx, hb, hml, hown, hts⟩ (c_X4_isMode l G [(cB, .byte), (cI, .int), (cZ, .boolean)] tc (wd a cB cI cZ (nI g) rn lv (nI r) lk ss rw sg (nI n) od aw tb md ql dr) (nI (k + 1))) (va_cwS 1 hts gX4_holds_X4_isMode rfl rfl rfl (by decide +kernel) ⟨by decide, by decide⟩) hK hZ hA hP hD hS rfl hl.1 rfl (Nat.le_of_ble_eq_true rfl) dX4_holds_15 ⟨Nat.zero_le _, Nat.zero_le _⟩ (fun v w' H locs hp hP hD hS => ?_)
  obtain ⟨rfl, rfl⟩ := hp
  have hP : va_P G vwCl (wd a cB cI cZ (nI g) rn lv (nI r) lk ss rw sg (nI n) od aw tb md ql dr) H := hP
  have hD : va_D A (wd a cB cI cZ (nI g) rn lv (nI r) lk ss rw sg (nI n) od aw tb md ql dr) := hD
  refine W.eq (g2 := F0 m 18 ls [.int (fw_b (px_isM (nI (k + 1))))]) rfl ?_
  refine lv_if_ne (tgt := 23) hx hb dX4_holds_18 (by decide) (fun c_18 => ?_) (fun c_18 => False.elim (by rw [px_isM_nI k hk8] at c_18; exact absurd c_18 (by decide)))
  have c_18 := fw_b1.mp c_18
  refine lv_aload_n hx hb dX4_holds_23 rfl (lv_at hl 0 rfl) ?_
  refine va_get (D := G) (ci := 4) (v := .ref (a 2)) (C := RX4) (T := TX4) (N := 4) hx hb hts hin4 hown hK hP 0 rfl rfl 1 (by decide) fl_19 (fun _ h9 => h9) rfl dX4_holds_24 ?_
  refine lv_iload_n hx hb dX4_holds_27 rfl (lv_at hl 1 rfl) ?_
  refine lv_iload_n hx hb dX4_holds_28 rfl (lv_at hl 2 rfl) ?_
  refine lv_iload_n hx hb dX4_holds_29 rfl (lv_at hl 3 rfl) ?_
  refine kV (As := [.int (nI x), .int (nI y), .int (nI (k + 1))]) (rest := []) ⟨hx, hb, hml, hown, hts⟩ (c_X0_levelOf l G cB cI cZ tc a (nI g) (nI r) (nI n) rn lv lk ss rw sg od aw tb md ql dr x y k hx6 hy8 hk8) (cwV 3 hts gX4_holds_X0_levelOf rfl rfl rfl (by decide +kernel) ⟨by decide, by decide⟩) hK hZ hA hP hD hS 2 0 rfl rfl rfl hl.1 rfl (Nat.le_of_ble_eq_true rfl) dX4_holds_30 ⟨Nat.zero_le _, Nat.zero_le _⟩ (fun v w' H locs hp hP hD hS => ?_)
  obtain ⟨rfl, rfl⟩ := hp
  have hP : va_P G vwCl (wd a cB cI cZ (nI g) rn lv (nI r) lk ss rw sg (nI n) od aw tb md ql dr) H := hP
  have hD : va_D A (wd a cB cI cZ (nI g) rn lv (nI r) lk ss rw sg (nI n) od aw tb md ql dr) := hD
  refine W.eq (g2 := F0 m 33 ls [.int (lv (64 * x + 8 * y + k))]) rfl ?_
  exact hri _ rfl (lv (64 * x + 8 * y + k)) _ _ _ _ _ (rfl) (⟨rfl, rfl⟩) hP hD hS dX4_holds_33

abbrev rmX4_locker : Room := { frames := 1, cells := 0, slots := 0, locals := 24 }
set_option maxHeartbeats 4000000 in
set_option maxRecDepth 100000 in
theorem c_locker (l : Launch) (G : va_G) (cB cI cZ : ClassId) (tc : Nat) (a : Nat → Nat) (rn lv lk ss rw sg od aw tb md ql dr : Nat → Int32) (g : Nat) (r : Nat) (n : Nat) (x1 : Int32) (x2 : Int32) (hr5 : r ≤ 512) : KC l yX4_locker wsX4_locker rmX4_locker G [(cB, .byte), (cI, .int), (cZ, .boolean)] tc [.ref (a 0), .int x1, .int x2] (wd a cB cI cZ (nI g) rn lv (nI r) lk ss rw sg (nI n) od aw tb md ql dr) (fun v w' => v = some (.int (px_sn r lk rw sg x1 x2)) ∧ w' = (wd a cB cI cZ (nI g) rn lv (nI r) lk ss rw sg (nI n) od aw tb md ql dr)) := by
  refine KC.of (cc := cX4_locker) (maxL := 3) (ret := some .int) (by decide) rfl (Nat.le_of_ble_eq_true rfl) ?_
  intro p e s m below meth c args A Q ls hx hb hml hown hts hK hZ hA hP hD hS hl hri hrv
  have hown : s.vm.findClass RX4 = some m.cls := hown
  have hl : lv_has ls 3 [(0, .ref (a 0)), (1, .int x1), (2, .int x2)] := hl
  have fl_26 := hts (.fieldLink RX4 26 "LockDesk" "rowLocks" "LLockDesk$RowLocks;") (by decide +kernel)
  have hin4 : ∀ w ∈ wsX40, w ∈ wsX4_locker := by decide +kernel
  refine lv_aload_n hx hb dX4_locker_0 rfl (lv_at hl 0 rfl) ?_
  refine va_get (D := G) (ci := 4) (v := .ref (a 3)) (C := RX4) (T := TX4) (N := 4) hx hb hts hin4 hown hK hP 0 rfl rfl 2 (by decide) fl_26 (fun _ h9 => h9) rfl dX4_locker_1 ?_
  refine lv_iload_n hx hb dX4_locker_4 rfl (lv_at hl 1 rfl) ?_
  refine lv_iload_n hx hb dX4_locker_5 rfl (lv_at hl 2 rfl) ?_
  refine kV (As := [.int x1, .int x2]) (rest := []) ⟨hx, hb, hml, hown, hts⟩ (c_X3_signedNumberAt l G cB cI cZ tc a (nI g) (nI n) rn lv lk ss rw sg od aw tb md ql dr r x1 x2 hr5) (cwV 2 hts gX4_locker_X3_signedNumberAt rfl rfl rfl (by decide +kernel) ⟨by decide, by decide⟩) hK hZ hA hP hD hS 3 3 rfl rfl rfl hl.1 rfl (Nat.le_of_ble_eq_true rfl) dX4_locker_6 ⟨Nat.zero_le _, Nat.zero_le _⟩ (fun v w' H locs hp hP hD hS => ?_)
  obtain ⟨rfl, rfl⟩ := hp
  have hP : va_P G vwCl (wd a cB cI cZ (nI g) rn lv (nI r) lk ss rw sg (nI n) od aw tb md ql dr) H := hP
  have hD : va_D A (wd a cB cI cZ (nI g) rn lv (nI r) lk ss rw sg (nI n) od aw tb md ql dr) := hD
  refine W.eq (g2 := F0 m 9 ls [.int (px_sn r lk rw sg x1 x2)]) rfl ?_
  exact hri _ rfl (px_sn r lk rw sg x1 x2) _ _ _ _ _ (rfl) (⟨rfl, rfl⟩) hP hD hS dX4_locker_9

abbrev rmX4_on : Room := { frames := 5, cells := 0, slots := 0, locals := 117 }
set_option maxHeartbeats 4000000 in
set_option maxRecDepth 100000 in
theorem c_on (l : Launch) (G : va_G) (cB cI cZ : ClassId) (tc : Nat) (a : Nat → Nat) (rn lv lk ss rw sg od aw tb md ql dr : Nat → Int32) (g : Nat) (r : Nat) (n : Nat) (x1 : Int32) (hI : px_I g n od aw tb md ql dr) : KC l yX4_on wsX4_on rmX4_on G [(cB, .byte), (cI, .int), (cZ, .boolean)] tc [.ref (a 0), .int x1] (wd a cB cI cZ (nI g) rn lv (nI r) lk ss rw sg (nI n) od aw tb md ql dr) (fun v w' => v = some (.int (px_wo g n rn lv od aw tb md dr x1)) ∧ w' = (wd a cB cI cZ (nI g) rn lv (nI r) lk ss rw sg (nI n) od aw tb md ql dr)) := by
  refine KC.of (cc := cX4_on) (maxL := 2) (ret := some .int) (by decide) rfl (Nat.le_of_ble_eq_true rfl) ?_
  intro p e s m below meth c args A Q ls hx hb hml hown hts hK hZ hA hP hD hS hl hri hrv
  have hown : s.vm.findClass RX4 = some m.cls := hown
  have hl : lv_has ls 2 [(0, .ref (a 0)), (1, .int x1)] := hl
  refine lv_aload_n hx hb dX4_on_0 rfl (lv_at hl 0 rfl) ?_
  refine lv_iload_n hx hb dX4_on_1 rfl (lv_at hl 1 rfl) ?_
  refine kV (As := [.int x1]) (rest := []) ⟨hx, hb, hml, hown, hts⟩ (c_X4_waitsOn l G cB cI cZ tc a rn lv lk ss rw sg od aw tb md ql dr g r n x1 hI) (cwV 1 hts gX4_on_X4_waitsOn rfl rfl rfl (by decide +kernel) ⟨by decide, by decide⟩) hK hZ hA hP hD hS 0 4 rfl rfl rfl hl.1 rfl (Nat.le_of_ble_eq_true rfl) dX4_on_2 ⟨Nat.zero_le _, Nat.zero_le _⟩ (fun v w' H locs hp hP hD hS => ?_)
  obtain ⟨rfl, rfl⟩ := hp
  have hP : va_P G vwCl (wd a cB cI cZ (nI g) rn lv (nI r) lk ss rw sg (nI n) od aw tb md ql dr) H := hP
  have hD : va_D A (wd a cB cI cZ (nI g) rn lv (nI r) lk ss rw sg (nI n) od aw tb md ql dr) := hD
  refine W.eq (g2 := F0 m 5 ls [.int (px_wo g n rn lv od aw tb md dr x1)]) rfl ?_
  exact hri _ rfl (px_wo g n rn lv od aw tb md dr x1) _ _ _ _ _ (rfl) (⟨rfl, rfl⟩) hP hD hS dX4_on_5

abbrev rmX4_waiting : Room := { frames := 1, cells := 0, slots := 0, locals := 21 }
set_option maxHeartbeats 4000000 in
set_option maxRecDepth 100000 in
theorem c_waiting (l : Launch) (G : va_G) (cB cI cZ : ClassId) (tc : Nat) (a : Nat → Nat) (rn lv lk ss rw sg od aw tb md ql dr : Nat → Int32) (g : Nat) (r : Nat) (n : Nat) (x1 : Int32) (hn6 : n ≤ 6) : KC l yX4_waiting wsX4_waiting rmX4_waiting G [(cB, .byte), (cI, .int), (cZ, .boolean)] tc [.ref (a 0), .int x1] (wd a cB cI cZ (nI g) rn lv (nI r) lk ss rw sg (nI n) od aw tb md ql dr) (fun v w' => v = some (.int (px_at n od x1)) ∧ w' = (wd a cB cI cZ (nI g) rn lv (nI r) lk ss rw sg (nI n) od aw tb md ql dr)) := by
  refine KC.of (cc := cX4_waiting) (maxL := 2) (ret := some .int) (by decide) rfl (Nat.le_of_ble_eq_true rfl) ?_
  intro p e s m below meth c args A Q ls hx hb hml hown hts hK hZ hA hP hD hS hl hri hrv
  have hown : s.vm.findClass RX4 = some m.cls := hown
  have hl : lv_has ls 2 [(0, .ref (a 0)), (1, .int x1)] := hl
  have fl_33 := hts (.fieldLink RX4 33 "LockDesk" "queue" "LLockDesk$Queue;") (by decide +kernel)
  have hin4 : ∀ w ∈ wsX40, w ∈ wsX4_waiting := by decide +kernel
  refine lv_aload_n hx hb dX4_waiting_0 rfl (lv_at hl 0 rfl) ?_
  refine va_get (D := G) (ci := 4) (v := .ref (a 4)) (C := RX4) (T := TX4) (N := 4) hx hb hts hin4 hown hK hP 0 rfl rfl 3 (by decide) fl_33 (fun _ h9 => h9) rfl dX4_waiting_1 ?_
  refine lv_iload_n hx hb dX4_waiting_4 rfl (lv_at hl 1 rfl) ?_
  refine kV (As := [.int x1]) (rest := []) ⟨hx, hb, hml, hown, hts⟩ (c_X2_sessionAt l G cB cI cZ tc a (nI g) (nI r) rn lv lk ss rw sg od aw tb md ql dr n x1 hn6) (cwV 1 hts gX4_waiting_X2_sessionAt rfl rfl rfl (by decide +kernel) ⟨by decide, by decide⟩) hK hZ hA hP hD hS 4 2 rfl rfl rfl hl.1 rfl (Nat.le_of_ble_eq_true rfl) dX4_waiting_5 ⟨Nat.zero_le _, Nat.zero_le _⟩ (fun v w' H locs hp hP hD hS => ?_)
  obtain ⟨rfl, rfl⟩ := hp
  have hP : va_P G vwCl (wd a cB cI cZ (nI g) rn lv (nI r) lk ss rw sg (nI n) od aw tb md ql dr) H := hP
  have hD : va_D A (wd a cB cI cZ (nI g) rn lv (nI r) lk ss rw sg (nI n) od aw tb md ql dr) := hD
  refine W.eq (g2 := F0 m 8 ls [.int (px_at n od x1)]) rfl ?_
  exact hri _ rfl (px_at n od x1) _ _ _ _ _ (rfl) (⟨rfl, rfl⟩) hP hD hS dX4_waiting_8

abbrev rmX4_wish : Room := { frames := 2, cells := 0, slots := 0, locals := 43 }
set_option maxHeartbeats 4000000 in
set_option maxRecDepth 100000 in
theorem c_wish_no (l : Launch) (G : va_G) (cB cI cZ : ClassId) (tc : Nat) (a : Nat → Nat) (rn lv lk ss rw sg od aw tb md ql dr : Nat → Int32) (g : Nat) (r : Nat) (n : Nat) (x1 : Int32) (h : px_isS x1 = false) : KC l yX4_wish wsX4_wish rmX4_wish G [(cB, .byte), (cI, .int), (cZ, .boolean)] tc [.ref (a 0), .int x1] (wd a cB cI cZ (nI g) rn lv (nI r) lk ss rw sg (nI n) od aw tb md ql dr) (fun v w' => v = some (.int (-1)) ∧ w' = (wd a cB cI cZ (nI g) rn lv (nI r) lk ss rw sg (nI n) od aw tb md ql dr)) := by
  refine KC.of (cc := cX4_wish) (maxL := 3) (ret := some .int) (by decide) rfl (Nat.le_of_ble_eq_true rfl) ?_
  intro p e s m below meth c args A Q ls hx hb hml hown hts hK hZ hA hP hD hS hl hri hrv
  have hown : s.vm.findClass RX4 = some m.cls := hown
  have hl : lv_has ls 3 [(0, .ref (a 0)), (1, .int x1)] := hl
  have fl_33 := hts (.fieldLink RX4 33 "LockDesk" "queue" "LLockDesk$Queue;") (by decide +kernel)
  have hin4 : ∀ w ∈ wsX40, w ∈ wsX4_wish := by decide +kernel
  refine lv_iload_n hx hb dX4_wish_0 rfl (lv_at hl 1 rfl) ?_
  refine kS (As := [.int x1]) (rest := []) ⟨hx, hb, hml, hown, hts⟩ (c_X4_isSession l G [(cB, .byte), (cI, .int), (cZ, .boolean)] tc (wd a cB cI cZ (nI g) rn lv (nI r) lk ss rw sg (nI n) od aw tb md ql dr) x1) (va_cwS 1 hts gX4_wish_X4_isSession rfl rfl rfl (by decide +kernel) ⟨by decide, by decide⟩) hK hZ hA hP hD hS rfl hl.1 rfl (Nat.le_of_ble_eq_true rfl) dX4_wish_1 ⟨Nat.zero_le _, Nat.zero_le _⟩ (fun v w' H locs hp hP hD hS => ?_)
  obtain ⟨rfl, rfl⟩ := hp
  have hP : va_P G vwCl (wd a cB cI cZ (nI g) rn lv (nI r) lk ss rw sg (nI n) od aw tb md ql dr) H := hP
  have hD : va_D A (wd a cB cI cZ (nI g) rn lv (nI r) lk ss rw sg (nI n) od aw tb md ql dr) := hD
  refine W.eq (g2 := F0 m 4 ls [.int (fw_b (px_isS x1))]) rfl ?_
  refine lv_if_ne (tgt := 9) hx hb dX4_wish_4 (by decide) (fun c_4 => False.elim (by rw [h] at c_4; exact c_4 rfl)) (fun c_4 => ?_)
  have c_4 := fw_b0.mp c_4
  refine lv_iconst (v := (-1)) hx hb dX4_wish_7 (by decide) ?_
  exact hri _ rfl (-1) _ _ _ _ _ (rfl) (⟨rfl, rfl⟩) hP hD hS dX4_wish_8

set_option maxHeartbeats 4000000 in
set_option maxRecDepth 100000 in
theorem c_wish_ok (l : Launch) (G : va_G) (cB cI cZ : ClassId) (tc : Nat) (a : Nat → Nat) (rn lv lk ss rw sg od aw tb md ql dr : Nat → Int32) (g : Nat) (r : Nat) (n : Nat) (x : Nat) (hx6 : x < 6) (hn6 : n ≤ 6) (hd : dr x = 0 ∨ dr x = 1) : KC l yX4_wish wsX4_wish rmX4_wish G [(cB, .byte), (cI, .int), (cZ, .boolean)] tc [.ref (a 0), .int (nI x)] (wd a cB cI cZ (nI g) rn lv (nI r) lk ss rw sg (nI n) od aw tb md ql dr) (fun v w' => v = some (.int (if (px_pl n od (nI x)).isSome = true then (if aw x = 0 then (if dr x = 0 then 10 * tb x + md x else 1000 + (10 * tb x + md x)) else 10000 + aw x) else 0)) ∧ w' = (wd a cB cI cZ (nI g) rn lv (nI r) lk ss rw sg (nI n) od aw tb md ql dr)) := by
  refine KC.of (cc := cX4_wish) (maxL := 3) (ret := some .int) (by decide) rfl (Nat.le_of_ble_eq_true rfl) ?_
  intro p e s m below meth c args A Q ls hx hb hml hown hts hK hZ hA hP hD hS hl hri hrv
  have hown : s.vm.findClass RX4 = some m.cls := hown
  have hl : lv_has ls 3 [(0, .ref (a 0)), (1, .int (nI x))] := hl
  have fl_33 := hts (.fieldLink RX4 33 "LockDesk" "queue" "LLockDesk$Queue;") (by decide +kernel)
  have hin4 : ∀ w ∈ wsX40, w ∈ wsX4_wish := by decide +kernel
  refine lv_iload_n hx hb dX4_wish_0 rfl (lv_at hl 1 rfl) ?_
  refine kS (As := [.int (nI x)]) (rest := []) ⟨hx, hb, hml, hown, hts⟩ (c_X4_isSession l G [(cB, .byte), (cI, .int), (cZ, .boolean)] tc (wd a cB cI cZ (nI g) rn lv (nI r) lk ss rw sg (nI n) od aw tb md ql dr) (nI x)) (va_cwS 1 hts gX4_wish_X4_isSession rfl rfl rfl (by decide +kernel) ⟨by decide, by decide⟩) hK hZ hA hP hD hS rfl hl.1 rfl (Nat.le_of_ble_eq_true rfl) dX4_wish_1 ⟨Nat.zero_le _, Nat.zero_le _⟩ (fun v w' H locs hp hP hD hS => ?_)
  obtain ⟨rfl, rfl⟩ := hp
  have hP : va_P G vwCl (wd a cB cI cZ (nI g) rn lv (nI r) lk ss rw sg (nI n) od aw tb md ql dr) H := hP
  have hD : va_D A (wd a cB cI cZ (nI g) rn lv (nI r) lk ss rw sg (nI n) od aw tb md ql dr) := hD
  refine W.eq (g2 := F0 m 4 ls [.int (fw_b (px_isS (nI x)))]) rfl ?_
  refine lv_if_ne (tgt := 9) hx hb dX4_wish_4 (by decide) (fun c_4 => ?_) (fun c_4 => False.elim (by rw [px_isS_nI x hx6] at c_4; exact absurd c_4 (by decide)))
  have c_4 := fw_b1.mp c_4
  refine lv_aload_n hx hb dX4_wish_9 rfl (lv_at hl 0 rfl) ?_
  refine va_get (D := G) (ci := 4) (v := .ref (a 4)) (C := RX4) (T := TX4) (N := 4) hx hb hts hin4 hown hK hP 0 rfl rfl 3 (by decide) fl_33 (fun _ h9 => h9) rfl dX4_wish_10 ?_
  refine lv_iload_n hx hb dX4_wish_13 rfl (lv_at hl 1 rfl) ?_
  refine kV (As := [.int (nI x)]) (rest := []) ⟨hx, hb, hml, hown, hts⟩ (c_X2_contains l G cB cI cZ tc a (nI g) (nI r) rn lv lk ss rw sg od aw tb md ql dr n (nI x) hn6) (cwV 1 hts gX4_wish_X2_contains rfl rfl rfl (by decide +kernel) ⟨by decide, by decide⟩) hK hZ hA hP hD hS 4 2 rfl rfl rfl hl.1 rfl (Nat.le_of_ble_eq_true rfl) dX4_wish_14 ⟨Nat.zero_le _, Nat.zero_le _⟩ (fun v w' H locs hp hP hD hS => ?_)
  obtain ⟨rfl, rfl⟩ := hp
  have hP : va_P G vwCl (wd a cB cI cZ (nI g) rn lv (nI r) lk ss rw sg (nI n) od aw tb md ql dr) H := hP
  have hD : va_D A (wd a cB cI cZ (nI g) rn lv (nI r) lk ss rw sg (nI n) od aw tb md ql dr) := hD
  refine W.eq (g2 := F0 m 17 ls [.int (fw_b (px_pl n od (nI x)).isSome)]) rfl ?_
  refine lv_if_ne (tgt := 22) hx hb dX4_wish_17 (by decide) (fun c_17 => ?_) (fun c_17 => ?_)
  · have c_17 := fw_b1.mp c_17
    refine lv_aload_n hx hb dX4_wish_22 rfl (lv_at hl 0 rfl) ?_
    refine va_get (D := G) (ci := 4) (v := .ref (a 4)) (C := RX4) (T := TX4) (N := 4) hx hb hts hin4 hown hK hP 0 rfl rfl 3 (by decide) fl_33 (fun _ h9 => h9) rfl dX4_wish_23 ?_
    refine lv_iload_n hx hb dX4_wish_26 rfl (lv_at hl 1 rfl) ?_
    refine kV (As := [.int (nI x)]) (rest := []) ⟨hx, hb, hml, hown, hts⟩ (c_X2_isForNumber l G cB cI cZ tc a (nI g) (nI r) (nI n) rn lv lk ss rw sg od aw tb md ql dr x hx6) (cwV 1 hts gX4_wish_X2_isForNumber rfl rfl rfl (by decide +kernel) ⟨by decide, by decide⟩) hK hZ hA hP hD hS 4 2 rfl rfl rfl hl.1 rfl (Nat.le_of_ble_eq_true rfl) dX4_wish_27 ⟨Nat.zero_le _, Nat.zero_le _⟩ (fun v w' H locs hp hP hD hS => ?_)
    obtain ⟨rfl, rfl⟩ := hp
    have hP : va_P G vwCl (wd a cB cI cZ (nI g) rn lv (nI r) lk ss rw sg (nI n) od aw tb md ql dr) H := hP
    have hD : va_D A (wd a cB cI cZ (nI g) rn lv (nI r) lk ss rw sg (nI n) od aw tb md ql dr) := hD
    refine W.eq (g2 := F0 m 30 ls [.int (fw_b (!decide (aw x = 0)))]) rfl ?_
    refine lv_if_eq (tgt := 46) hx hb dX4_wish_30 (by decide) (fun c_30 => ?_) (fun c_30 => ?_)
    · have c_30 := fw_b0.mp c_30
      have c_30 : aw x = 0 := by simpa using c_30
      refine lv_bipush (v := 10) hx hb dX4_wish_46 (by decide) ?_
      refine lv_aload_n hx hb dX4_wish_48 rfl (lv_at hl 0 rfl) ?_
      refine va_get (D := G) (ci := 4) (v := .ref (a 4)) (C := RX4) (T := TX4) (N := 4) hx hb hts hin4 hown hK hP 0 rfl rfl 3 (by decide) fl_33 (fun _ h9 => h9) rfl dX4_wish_49 ?_
      refine lv_iload_n hx hb dX4_wish_52 rfl (lv_at hl 1 rfl) ?_
      refine kV (As := [.int (nI x)]) (rest := [.int 10]) ⟨hx, hb, hml, hown, hts⟩ (c_X2_tableOf l G cB cI cZ tc a (nI g) (nI r) (nI n) rn lv lk ss rw sg od aw tb md ql dr x hx6) (cwV 1 hts gX4_wish_X2_tableOf rfl rfl rfl (by decide +kernel) ⟨by decide, by decide⟩) hK hZ hA hP hD hS 4 2 rfl rfl rfl hl.1 rfl (Nat.le_of_ble_eq_true rfl) dX4_wish_53 ⟨Nat.zero_le _, Nat.zero_le _⟩ (fun v w' H locs hp hP hD hS => ?_)
      obtain ⟨rfl, rfl⟩ := hp
      have hP : va_P G vwCl (wd a cB cI cZ (nI g) rn lv (nI r) lk ss rw sg (nI n) od aw tb md ql dr) H := hP
      have hD : va_D A (wd a cB cI cZ (nI g) rn lv (nI r) lk ss rw sg (nI n) od aw tb md ql dr) := hD
      refine W.eq (g2 := F0 m 56 ls [.int (tb x), .int 10]) rfl ?_
      refine lv_imul hx hb dX4_wish_56 ?_
      refine lv_aload_n hx hb dX4_wish_57 rfl (lv_at hl 0 rfl) ?_
      refine va_get (D := G) (ci := 4) (v := .ref (a 4)) (C := RX4) (T := TX4) (N := 4) hx hb hts hin4 hown hK hP 0 rfl rfl 3 (by decide) fl_33 (fun _ h9 => h9) rfl dX4_wish_58 ?_
      refine lv_iload_n hx hb dX4_wish_61 rfl (lv_at hl 1 rfl) ?_
      refine kV (As := [.int (nI x)]) (rest := [.int (10 * (tb x))]) ⟨hx, hb, hml, hown, hts⟩ (c_X2_modeOf l G cB cI cZ tc a (nI g) (nI r) (nI n) rn lv lk ss rw sg od aw tb md ql dr x hx6) (cwV 1 hts gX4_wish_X2_modeOf rfl rfl rfl (by decide +kernel) ⟨by decide, by decide⟩) hK hZ hA hP hD hS 4 2 rfl rfl rfl hl.1 rfl (Nat.le_of_ble_eq_true rfl) dX4_wish_62 ⟨Nat.zero_le _, Nat.zero_le _⟩ (fun v w' H locs hp hP hD hS => ?_)
      obtain ⟨rfl, rfl⟩ := hp
      have hP : va_P G vwCl (wd a cB cI cZ (nI g) rn lv (nI r) lk ss rw sg (nI n) od aw tb md ql dr) H := hP
      have hD : va_D A (wd a cB cI cZ (nI g) rn lv (nI r) lk ss rw sg (nI n) od aw tb md ql dr) := hD
      refine W.eq (g2 := F0 m 65 ls [.int (md x), .int (10 * (tb x))]) rfl ?_
      refine lv_iadd hx hb dX4_wish_65 ?_
      refine lv_istore_n (lv' := [(2, .int ((10 * (tb x)) + (md x))), (0, .ref (a 0)), (1, .int (nI x))]) hx hb dX4_wish_66 rfl hl (by decide) rfl (fun ls hl => ?_)
      refine lv_aload_n hx hb dX4_wish_67 rfl (lv_at hl 1 rfl) ?_
      refine va_get (D := G) (ci := 4) (v := .ref (a 4)) (C := RX4) (T := TX4) (N := 4) hx hb hts hin4 hown hK hP 0 rfl rfl 3 (by decide) fl_33 (fun _ h9 => h9) rfl dX4_wish_68 ?_
      refine lv_iload_n hx hb dX4_wish_71 rfl (lv_at hl 2 rfl) ?_
      refine kV (As := [.int (nI x)]) (rest := []) ⟨hx, hb, hml, hown, hts⟩ (c_X2_isDropped l G cB cI cZ tc a (nI g) (nI r) (nI n) rn lv lk ss rw sg od aw tb md ql dr x hx6 hd) (cwV 1 hts gX4_wish_X2_isDropped rfl rfl rfl (by decide +kernel) ⟨by decide, by decide⟩) hK hZ hA hP hD hS 4 2 rfl rfl rfl hl.1 rfl (Nat.le_of_ble_eq_true rfl) dX4_wish_72 ⟨Nat.zero_le _, Nat.zero_le _⟩ (fun v w' H locs hp hP hD hS => ?_)
      obtain ⟨rfl, rfl⟩ := hp
      have hP : va_P G vwCl (wd a cB cI cZ (nI g) rn lv (nI r) lk ss rw sg (nI n) od aw tb md ql dr) H := hP
      have hD : va_D A (wd a cB cI cZ (nI g) rn lv (nI r) lk ss rw sg (nI n) od aw tb md ql dr) := hD
      refine W.eq (g2 := F0 m 75 ls [.int (dr x)]) rfl ?_
      refine lv_if_eq (tgt := 86) hx hb dX4_wish_75 (by decide) (fun c_75 => ?_) (fun c_75 => ?_)
      · refine lv_iload_n hx hb dX4_wish_86 rfl (lv_at hl 0 rfl) ?_
        exact hri _ rfl ((10 * (tb x)) + (md x)) _ _ _ _ _ (rfl) (⟨by rw [if_pos c_17, if_pos c_30, if_pos c_75], rfl⟩) hP hD hS dX4_wish_87
      · refine lv_sipush (v := 1000) hx hb dX4_wish_78 (by decide) ?_
        refine lv_iload_n hx hb dX4_wish_81 rfl (lv_at hl 0 rfl) ?_
        refine lv_iadd hx hb dX4_wish_82 ?_
        refine lv_goto (tgt := 87) hx hb dX4_wish_83 (by decide) ?_
        exact hri _ rfl (1000 + ((10 * (tb x)) + (md x))) _ _ _ _ _ (rfl) (⟨by rw [if_pos c_17, if_pos c_30, if_neg c_75], rfl⟩) hP hD hS dX4_wish_87
    · have c_30 := fw_b1.mp c_30
      have c_30 : ¬ aw x = 0 := by simpa using c_30
      refine lv_sipush (v := 10000) hx hb dX4_wish_33 (by decide) ?_
      refine lv_aload_n hx hb dX4_wish_36 rfl (lv_at hl 0 rfl) ?_
      refine va_get (D := G) (ci := 4) (v := .ref (a 4)) (C := RX4) (T := TX4) (N := 4) hx hb hts hin4 hown hK hP 0 rfl rfl 3 (by decide) fl_33 (fun _ h9 => h9) rfl dX4_wish_37 ?_
      refine lv_iload_n hx hb dX4_wish_40 rfl (lv_at hl 1 rfl) ?_
      refine kV (As := [.int (nI x)]) (rest := [.int 10000]) ⟨hx, hb, hml, hown, hts⟩ (c_X2_numberOf l G cB cI cZ tc a (nI g) (nI r) (nI n) rn lv lk ss rw sg od aw tb md ql dr x hx6) (cwV 1 hts gX4_wish_X2_numberOf rfl rfl rfl (by decide +kernel) ⟨by decide, by decide⟩) hK hZ hA hP hD hS 4 2 rfl rfl rfl hl.1 rfl (Nat.le_of_ble_eq_true rfl) dX4_wish_41 ⟨Nat.zero_le _, Nat.zero_le _⟩ (fun v w' H locs hp hP hD hS => ?_)
      obtain ⟨rfl, rfl⟩ := hp
      have hP : va_P G vwCl (wd a cB cI cZ (nI g) rn lv (nI r) lk ss rw sg (nI n) od aw tb md ql dr) H := hP
      have hD : va_D A (wd a cB cI cZ (nI g) rn lv (nI r) lk ss rw sg (nI n) od aw tb md ql dr) := hD
      refine W.eq (g2 := F0 m 44 ls [.int (aw x), .int 10000]) rfl ?_
      refine lv_iadd hx hb dX4_wish_44 ?_
      exact hri _ rfl (10000 + (aw x)) _ _ _ _ _ (rfl) (⟨by rw [if_pos c_17, if_neg c_30], rfl⟩) hP hD hS dX4_wish_45
  · have c_17 := fw_b0.mp c_17
    refine lv_iconst (v := 0) hx hb dX4_wish_20 (by decide) ?_
    exact hri _ rfl 0 _ _ _ _ _ (rfl) (⟨by rw [if_neg (show ¬ (px_pl n od (nI x)).isSome = true by rw [c_17]; decide)], rfl⟩) hP hD hS dX4_wish_21
