abbrev rmX4_has : Room := { frames := 0, cells := 0, slots := 0, locals := 0 }
set_option maxHeartbeats 4000000 in
set_option maxRecDepth 100000 in
theorem c_X4_has (l : Launch) (G : va_G) (tys : List (ClassId × FieldType)) (tc : Nat) (ws : va_W) (x1 : Int32) (x2 : Int32)  : KC l yX4_has wsX4_has rmX4_has G tys tc [.int x1, .int x2] ws (fun v w' => v = some (.int (fw_b (px_has x1 x2))) ∧ w' = ws) := by
  refine KC.of (cc := cX4_has) (maxL := 2) (ret := some .boolean) (by decide) rfl (Nat.le_of_ble_eq_true rfl) ?_
  intro p e s m below meth c args A Q ls hx hb hml hown hts hK hZ hA hP hD hS hl hri hrv
  have hown : s.vm.findClass RX4 = some m.cls := hown
  have hl : lv_has ls 2 [(0, .int x1), (1, .int x2)] := hl
  refine lv_iload_n hx hb dX4_has_0 rfl (lv_at hl 0 rfl) ?_
  refine lv_iconst (v := 1) hx hb dX4_has_1 (by decide) ?_
  refine lv_iload_n hx hb dX4_has_2 rfl (lv_at hl 1 rfl) ?_
  refine lv_ishl hx hb dX4_has_3 ?_
  refine lv_iand hx hb dX4_has_4 ?_
  refine lv_if_eq (tgt := 12) hx hb dX4_has_5 (by decide) (fun c_5 => ?_) (fun c_5 => ?_)
  · refine lv_iconst (v := 0) hx hb dX4_has_12 (by decide) ?_
    exact hri _ rfl 0 _ _ _ _ _ (by decide) (⟨by simp [px_has, fw_b, c_5], rfl⟩) hP hD hS dX4_has_13
  · refine lv_iconst (v := 1) hx hb dX4_has_8 (by decide) ?_
    refine lv_goto (tgt := 13) hx hb dX4_has_9 (by decide) ?_
    exact hri _ rfl 1 _ _ _ _ _ (by decide) (⟨by simp [px_has, fw_b, c_5], rfl⟩) hP hD hS dX4_has_13

abbrev rmX4_isSession : Room := { frames := 0, cells := 0, slots := 0, locals := 0 }
set_option maxHeartbeats 4000000 in
set_option maxRecDepth 100000 in
theorem c_X4_isSession (l : Launch) (G : va_G) (tys : List (ClassId × FieldType)) (tc : Nat) (ws : va_W) (x1 : Int32)  : KC l yX4_isSession wsX4_isSession rmX4_isSession G tys tc [.int x1] ws (fun v w' => v = some (.int (fw_b (px_isS x1))) ∧ w' = ws) := by
  refine KC.of (cc := cX4_isSession) (maxL := 1) (ret := some .boolean) (by decide) rfl (Nat.le_of_ble_eq_true rfl) ?_
  intro p e s m below meth c args A Q ls hx hb hml hown hts hK hZ hA hP hD hS hl hri hrv
  have hown : s.vm.findClass RX4 = some m.cls := hown
  have hl : lv_has ls 1 [(0, .int x1)] := hl
  refine lv_iload_n hx hb dX4_isSession_0 rfl (lv_at hl 0 rfl) ?_
  refine lv_if_lt (tgt := 14) hx hb dX4_isSession_1 (by decide) (fun c_1 => ?_) (fun c_1 => ?_)
  · refine lv_iconst (v := 0) hx hb dX4_isSession_14 (by decide) ?_
    exact hri _ rfl 0 _ _ _ _ _ (by decide) (⟨by simp [px_isS, fw_b, c_1], rfl⟩) hP hD hS dX4_isSession_15
  · refine lv_iload_n hx hb dX4_isSession_4 rfl (lv_at hl 0 rfl) ?_
    refine lv_bipush (v := 6) hx hb dX4_isSession_5 (by decide) ?_
    refine lv_icmp_ge (tgt := 14) hx hb dX4_isSession_7 (by decide) (fun c_7 => ?_) (fun c_7 => ?_)
    · refine lv_iconst (v := 0) hx hb dX4_isSession_14 (by decide) ?_
      exact hri _ rfl 0 _ _ _ _ _ (by decide) (⟨by simp [px_isS, fw_b, c_1, c_7], rfl⟩) hP hD hS dX4_isSession_15
    · refine lv_iconst (v := 1) hx hb dX4_isSession_10 (by decide) ?_
      refine lv_goto (tgt := 15) hx hb dX4_isSession_11 (by decide) ?_
      exact hri _ rfl 1 _ _ _ _ _ (by decide) (⟨by simp [px_isS, fw_b, c_1, c_7], rfl⟩) hP hD hS dX4_isSession_15

abbrev rmX4_isTable : Room := { frames := 0, cells := 0, slots := 0, locals := 0 }
set_option maxHeartbeats 4000000 in
set_option maxRecDepth 100000 in
theorem c_X4_isTable (l : Launch) (G : va_G) (tys : List (ClassId × FieldType)) (tc : Nat) (ws : va_W) (x1 : Int32)  : KC l yX4_isTable wsX4_isTable rmX4_isTable G tys tc [.int x1] ws (fun v w' => v = some (.int (fw_b (px_isT x1))) ∧ w' = ws) := by
  refine KC.of (cc := cX4_isTable) (maxL := 1) (ret := some .boolean) (by decide) rfl (Nat.le_of_ble_eq_true rfl) ?_
  intro p e s m below meth c args A Q ls hx hb hml hown hts hK hZ hA hP hD hS hl hri hrv
  have hown : s.vm.findClass RX4 = some m.cls := hown
  have hl : lv_has ls 1 [(0, .int x1)] := hl
  refine lv_iload_n hx hb dX4_isTable_0 rfl (lv_at hl 0 rfl) ?_
  refine lv_if_lt (tgt := 14) hx hb dX4_isTable_1 (by decide) (fun c_1 => ?_) (fun c_1 => ?_)
  · refine lv_iconst (v := 0) hx hb dX4_isTable_14 (by decide) ?_
    exact hri _ rfl 0 _ _ _ _ _ (by decide) (⟨by simp [px_isT, fw_b, c_1], rfl⟩) hP hD hS dX4_isTable_15
  · refine lv_iload_n hx hb dX4_isTable_4 rfl (lv_at hl 0 rfl) ?_
    refine lv_bipush (v := 8) hx hb dX4_isTable_5 (by decide) ?_
    refine lv_icmp_ge (tgt := 14) hx hb dX4_isTable_7 (by decide) (fun c_7 => ?_) (fun c_7 => ?_)
    · refine lv_iconst (v := 0) hx hb dX4_isTable_14 (by decide) ?_
      exact hri _ rfl 0 _ _ _ _ _ (by decide) (⟨by simp [px_isT, fw_b, c_1, c_7], rfl⟩) hP hD hS dX4_isTable_15
    · refine lv_iconst (v := 1) hx hb dX4_isTable_10 (by decide) ?_
      refine lv_goto (tgt := 15) hx hb dX4_isTable_11 (by decide) ?_
      exact hri _ rfl 1 _ _ _ _ _ (by decide) (⟨by simp [px_isT, fw_b, c_1, c_7], rfl⟩) hP hD hS dX4_isTable_15

abbrev rmX4_isLevel : Room := { frames := 0, cells := 0, slots := 0, locals := 0 }
set_option maxHeartbeats 4000000 in
set_option maxRecDepth 100000 in
theorem c_X4_isLevel (l : Launch) (G : va_G) (tys : List (ClassId × FieldType)) (tc : Nat) (ws : va_W) (x1 : Int32)  : KC l yX4_isLevel wsX4_isLevel rmX4_isLevel G tys tc [.int x1] ws (fun v w' => v = some (.int (fw_b (px_isT x1))) ∧ w' = ws) := by
  refine KC.of (cc := cX4_isLevel) (maxL := 1) (ret := some .boolean) (by decide) rfl (Nat.le_of_ble_eq_true rfl) ?_
  intro p e s m below meth c args A Q ls hx hb hml hown hts hK hZ hA hP hD hS hl hri hrv
  have hown : s.vm.findClass RX4 = some m.cls := hown
  have hl : lv_has ls 1 [(0, .int x1)] := hl
  refine lv_iload_n hx hb dX4_isLevel_0 rfl (lv_at hl 0 rfl) ?_
  refine lv_if_lt (tgt := 14) hx hb dX4_isLevel_1 (by decide) (fun c_1 => ?_) (fun c_1 => ?_)
  · refine lv_iconst (v := 0) hx hb dX4_isLevel_14 (by decide) ?_
    exact hri _ rfl 0 _ _ _ _ _ (by decide) (⟨by simp [px_isT, fw_b, c_1], rfl⟩) hP hD hS dX4_isLevel_15
  · refine lv_iload_n hx hb dX4_isLevel_4 rfl (lv_at hl 0 rfl) ?_
    refine lv_bipush (v := 8) hx hb dX4_isLevel_5 (by decide) ?_
    refine lv_icmp_ge (tgt := 14) hx hb dX4_isLevel_7 (by decide) (fun c_7 => ?_) (fun c_7 => ?_)
    · refine lv_iconst (v := 0) hx hb dX4_isLevel_14 (by decide) ?_
      exact hri _ rfl 0 _ _ _ _ _ (by decide) (⟨by simp [px_isT, fw_b, c_1, c_7], rfl⟩) hP hD hS dX4_isLevel_15
    · refine lv_iconst (v := 1) hx hb dX4_isLevel_10 (by decide) ?_
      refine lv_goto (tgt := 15) hx hb dX4_isLevel_11 (by decide) ?_
      exact hri _ rfl 1 _ _ _ _ _ (by decide) (⟨by simp [px_isT, fw_b, c_1, c_7], rfl⟩) hP hD hS dX4_isLevel_15

abbrev rmX4_isRow : Room := { frames := 0, cells := 0, slots := 0, locals := 0 }
set_option maxHeartbeats 4000000 in
set_option maxRecDepth 100000 in
theorem c_X4_isRow (l : Launch) (G : va_G) (tys : List (ClassId × FieldType)) (tc : Nat) (ws : va_W) (x1 : Int32)  : KC l yX4_isRow wsX4_isRow rmX4_isRow G tys tc [.int x1] ws (fun v w' => v = some (.int (fw_b (px_isR x1))) ∧ w' = ws) := by
  refine KC.of (cc := cX4_isRow) (maxL := 1) (ret := some .boolean) (by decide) rfl (Nat.le_of_ble_eq_true rfl) ?_
  intro p e s m below meth c args A Q ls hx hb hml hown hts hK hZ hA hP hD hS hl hri hrv
  have hown : s.vm.findClass RX4 = some m.cls := hown
  have hl : lv_has ls 1 [(0, .int x1)] := hl
  refine lv_iload_n hx hb dX4_isRow_0 rfl (lv_at hl 0 rfl) ?_
  refine lv_if_lt (tgt := 15) hx hb dX4_isRow_1 (by decide) (fun c_1 => ?_) (fun c_1 => ?_)
  · refine lv_iconst (v := 0) hx hb dX4_isRow_15 (by decide) ?_
    exact hri _ rfl 0 _ _ _ _ _ (by decide) (⟨by simp [px_isR, fw_b, c_1], rfl⟩) hP hD hS dX4_isRow_16
  · refine lv_iload_n hx hb dX4_isRow_4 rfl (lv_at hl 0 rfl) ?_
    refine lv_sipush (v := 1200) hx hb dX4_isRow_5 (by decide) ?_
    refine lv_icmp_ge (tgt := 15) hx hb dX4_isRow_8 (by decide) (fun c_8 => ?_) (fun c_8 => ?_)
    · refine lv_iconst (v := 0) hx hb dX4_isRow_15 (by decide) ?_
      exact hri _ rfl 0 _ _ _ _ _ (by decide) (⟨by simp [px_isR, fw_b, c_1, c_8], rfl⟩) hP hD hS dX4_isRow_16
    · refine lv_iconst (v := 1) hx hb dX4_isRow_11 (by decide) ?_
      refine lv_goto (tgt := 16) hx hb dX4_isRow_12 (by decide) ?_
      exact hri _ rfl 1 _ _ _ _ _ (by decide) (⟨by simp [px_isR, fw_b, c_1, c_8], rfl⟩) hP hD hS dX4_isRow_16

abbrev rmX4_isMode : Room := { frames := 0, cells := 0, slots := 0, locals := 0 }
set_option maxHeartbeats 4000000 in
set_option maxRecDepth 100000 in
theorem c_X4_isMode (l : Launch) (G : va_G) (tys : List (ClassId × FieldType)) (tc : Nat) (ws : va_W) (x1 : Int32)  : KC l yX4_isMode wsX4_isMode rmX4_isMode G tys tc [.int x1] ws (fun v w' => v = some (.int (fw_b (px_isM x1))) ∧ w' = ws) := by
  refine KC.of (cc := cX4_isMode) (maxL := 1) (ret := some .boolean) (by decide) rfl (Nat.le_of_ble_eq_true rfl) ?_
  intro p e s m below meth c args A Q ls hx hb hml hown hts hK hZ hA hP hD hS hl hri hrv
  have hown : s.vm.findClass RX4 = some m.cls := hown
  have hl : lv_has ls 1 [(0, .int x1)] := hl
  refine lv_iload_n hx hb dX4_isMode_0 rfl (lv_at hl 0 rfl) ?_
  refine lv_iconst (v := 1) hx hb dX4_isMode_1 (by decide) ?_
  refine lv_icmp_lt (tgt := 15) hx hb dX4_isMode_2 (by decide) (fun c_2 => ?_) (fun c_2 => ?_)
  · refine lv_iconst (v := 0) hx hb dX4_isMode_15 (by decide) ?_
    exact hri _ rfl 0 _ _ _ _ _ (by decide) (⟨by simp [px_isM, fw_b, c_2], rfl⟩) hP hD hS dX4_isMode_16
  · refine lv_iload_n hx hb dX4_isMode_5 rfl (lv_at hl 0 rfl) ?_
    refine lv_bipush (v := 8) hx hb dX4_isMode_6 (by decide) ?_
    refine lv_icmp_gt (tgt := 15) hx hb dX4_isMode_8 (by decide) (fun c_8 => ?_) (fun c_8 => ?_)
    · refine lv_iconst (v := 0) hx hb dX4_isMode_15 (by decide) ?_
      exact hri _ rfl 0 _ _ _ _ _ (by decide) (⟨by simp [px_isM, fw_b, c_2, c_8], rfl⟩) hP hD hS dX4_isMode_16
    · refine lv_iconst (v := 1) hx hb dX4_isMode_11 (by decide) ?_
      refine lv_goto (tgt := 16) hx hb dX4_isMode_12 (by decide) ?_
      exact hri _ rfl 1 _ _ _ _ _ (by decide) (⟨by simp [px_isM, fw_b, c_2, c_8], rfl⟩) hP hD hS dX4_isMode_16

abbrev rmX4_conflict : Room := { frames := 1, cells := 0, slots := 0, locals := 21 }
set_option maxHeartbeats 4000000 in
set_option maxRecDepth 100000 in
theorem c_X4_conflict (l : Launch) (G : va_G) (tys : List (ClassId × FieldType)) (tc : Nat) (ws : va_W) (k1 : Nat) (x2 : Int32) (h1 : k1 < 9) : KC l yX4_conflict wsX4_conflict rmX4_conflict G tys tc [.int (nI k1), .int x2] ws (fun v w' => v = some (.int (fw_b (px_cf k1 x2))) ∧ w' = ws) := by
  refine KC.of (cc := cX4_conflict) (maxL := 2) (ret := some .boolean) (by decide) rfl (Nat.le_of_ble_eq_true rfl) ?_
  intro p e s m below meth c args A Q ls hx hb hml hown hts hK hZ hA hP hD hS hl hri hrv
  have hown : s.vm.findClass RX4 = some m.cls := hown
  have hl : lv_has ls 2 [(0, .int (nI k1)), (1, .int x2)] := hl
  refine va_gets hx hb hZ.2.2.1 hS hown (hts (.fieldLink RX4 172 "LockDesk" "CONFLICTS" "[I") (by decide +kernel)) (fun _ h9 => h9) dX4_conflict_0 ?_
  refine lv_iload_n hx hb dX4_conflict_3 rfl (lv_at hl 0 rfl) ?_
  refine va_ti hx hb hZ.2.2.2 hS (v := .int (fw_cfI k1)) (vp_in_nI (by omega) (by decide)) (by rw [nI_clamp (by omega)]; rfl) dX4_conflict_4 ?_
  refine lv_iload_n hx hb dX4_conflict_5 rfl (lv_at hl 1 rfl) ?_
  refine kS (As := [.int (fw_cfI k1), .int x2]) (rest := []) ⟨hx, hb, hml, hown, hts⟩ (c_X4_has l G tys tc ws (fw_cfI k1) x2) (va_cwS 2 hts gX4_conflict_X4_has rfl rfl rfl (by decide +kernel) ⟨by decide, by decide⟩) hK hZ hA hP hD hS rfl hl.1 rfl (Nat.le_of_ble_eq_true rfl) dX4_conflict_6 ⟨Nat.zero_le _, Nat.zero_le _⟩ (fun v w' H locs hp hP hD hS => ?_)
  obtain ⟨rfl, hw9⟩ := hp
  rw [hw9] at hP hD
  refine W.eq (g2 := F0 m 9 ls [.int (fw_b (px_has (fw_cfI k1) x2))]) rfl ?_
  exact hri _ rfl (fw_b (px_has (fw_cfI k1) x2)) _ _ _ _ _ (fw_bn _) (⟨rfl, rfl⟩) hP hD hS dX4_conflict_9

abbrev rmX0_cell : Room := { frames := 0, cells := 0, slots := 0, locals := 0 }
set_option maxHeartbeats 4000000 in
set_option maxRecDepth 100000 in
theorem c_X0_cell (l : Launch) (G : va_G) (tys : List (ClassId × FieldType)) (tc : Nat) (ws : va_W) (x : Nat) (y : Nat) (k : Nat)  : KC l yX0_cell wsX0_cell rmX0_cell G tys tc [.int (nI x), .int (nI y), .int (nI (k + 1))] ws (fun v w' => v = some (.int (nI (64 * x + 8 * y + k))) ∧ w' = ws) := by
  refine KC.of (cc := cX0_cell) (maxL := 3) (ret := some .int) (by decide) rfl (Nat.le_of_ble_eq_true rfl) ?_
  intro p e s m below meth c args A Q ls hx hb hml hown hts hK hZ hA hP hD hS hl hri hrv
  have hown : s.vm.findClass RX0 = some m.cls := hown
  have hl : lv_has ls 3 [(0, .int (nI x)), (1, .int (nI y)), (2, .int (nI (k + 1)))] := hl
  refine lv_iload_n hx hb dX0_cell_0 rfl (lv_at hl 0 rfl) ?_
  refine lv_bipush (v := 64) hx hb dX0_cell_1 (by decide) ?_
  refine lv_imul hx hb dX0_cell_3 ?_
  refine lv_iload_n hx hb dX0_cell_4 rfl (lv_at hl 1 rfl) ?_
  refine lv_bipush (v := 8) hx hb dX0_cell_5 (by decide) ?_
  refine lv_imul hx hb dX0_cell_7 ?_
  refine lv_iadd hx hb dX0_cell_8 ?_
  refine lv_iload_n hx hb dX0_cell_9 rfl (lv_at hl 2 rfl) ?_
  refine lv_iadd hx hb dX0_cell_10 ?_
  refine lv_iconst (v := 1) hx hb dX0_cell_11 (by decide) ?_
  refine lv_isub hx hb dX0_cell_12 ?_
  exact hri _ rfl (((((nI x) * 64) + ((nI y) * 8)) + (nI (k + 1))) - 1) _ _ _ _ _ (rfl) (⟨by rw [px_cellE], rfl⟩) hP hD hS dX0_cell_13

abbrev rmX0_levelOf : Room := { frames := 1, cells := 0, slots := 0, locals := 22 }
set_option maxHeartbeats 4000000 in
set_option maxRecDepth 100000 in
theorem c_X0_levelOf (l : Launch) (G : va_G) (cB cI cZ : ClassId) (tc : Nat) (a : Nat → Nat) (gv rc qc : Int32) (rn lv lk ss rw sg od aw tb md ql dr : Nat → Int32) (x : Nat) (y : Nat) (k : Nat) (hx6 : x < 6)(hy8 : y < 8)(hk8 : k < 8) : KC l yX0_levelOf wsX0_levelOf rmX0_levelOf G [(cB, .byte), (cI, .int), (cZ, .boolean)] tc [.ref (a 2), .int (nI x), .int (nI y), .int (nI (k + 1))] (wd a cB cI cZ gv rn lv rc lk ss rw sg qc od aw tb md ql dr) (fun v w' => v = some (.int (lv (64 * x + 8 * y + k))) ∧ w' = (wd a cB cI cZ gv rn lv rc lk ss rw sg qc od aw tb md ql dr)) := by
  refine KC.of (cc := cX0_levelOf) (maxL := 4) (ret := some .int) (by decide) rfl (Nat.le_of_ble_eq_true rfl) ?_
  intro p e s m below meth c args A Q ls hx hb hml hown hts hK hZ hA hP hD hS hl hri hrv
  have hown : s.vm.findClass RX0 = some m.cls := hown
  have hl : lv_has ls 4 [(0, .ref (a 2)), (1, .int (nI x)), (2, .int (nI y)), (3, .int (nI (k + 1)))] := hl
  have fl_11 := hts (.fieldLink RX0 11 "LockDesk$Holdings" "levels" "[B") (by decide +kernel)
  have hin0 : ∀ w ∈ wsX00, w ∈ wsX0_levelOf := by decide +kernel
  refine lv_aload_n hx hb dX0_levelOf_0 rfl (lv_at hl 0 rfl) ?_
  refine va_get (D := G) (ci := 0) (v := .ref (a 6)) (C := RX0) (T := TX0) (N := 1) hx hb hts hin0 hown hK hP 2 rfl rfl 0 (by decide) fl_11 (fun _ h9 => h9) rfl dX0_levelOf_1 ?_
  refine lv_iload_n hx hb dX0_levelOf_4 rfl (lv_at hl 1 rfl) ?_
  refine lv_iload_n hx hb dX0_levelOf_5 rfl (lv_at hl 2 rfl) ?_
  refine lv_iload_n hx hb dX0_levelOf_6 rfl (lv_at hl 3 rfl) ?_
  refine kS (As := [.int (nI x), .int (nI y), .int (nI (k + 1))]) (rest := [.ref (a 6)]) ⟨hx, hb, hml, hown, hts⟩ (c_X0_cell l G [(cB, .byte), (cI, .int), (cZ, .boolean)] tc (wd a cB cI cZ gv rn lv rc lk ss rw sg qc od aw tb md ql dr) x y k) (va_cwS 3 hts gX0_levelOf_X0_cell rfl rfl rfl (by decide +kernel) ⟨by decide, by decide⟩) hK hZ hA hP hD hS rfl hl.1 rfl (Nat.le_of_ble_eq_true rfl) dX0_levelOf_7 ⟨Nat.zero_le _, Nat.zero_le _⟩ (fun v w' H locs hp hP hD hS => ?_)
  obtain ⟨rfl, rfl⟩ := hp
  have hP : va_P G vwCl (wd a cB cI cZ gv rn lv rc lk ss rw sg qc od aw tb md ql dr) H := hP
  have hD : va_D A (wd a cB cI cZ gv rn lv rc lk ss rw sg qc od aw tb md ql dr) := hD
  refine W.eq (g2 := F0 m 10 ls [.int (nI (64 * x + 8 * y + k)), .ref (a 6)]) rfl ?_
  refine fw_bald (j := (64 * x + 8 * y + k)) (f := lv) hx hb hK hP 6 0 rfl rfl (by omega) (by decide) dX0_levelOf_10 ?_
  exact hri _ rfl (lv (64 * x + 8 * y + k)) _ _ _ _ _ (rfl) (⟨rfl, rfl⟩) hP hD hS dX0_levelOf_11

abbrev rmX0_take : Room := { frames := 1, cells := 0, slots := 0, locals := 22 }
set_option maxHeartbeats 4000000 in
set_option maxRecDepth 100000 in
theorem c_X0_take (l : Launch) (G : va_G) (cB cI cZ : ClassId) (tc : Nat) (a : Nat → Nat) (gv rc qc : Int32) (rn lv lk ss rw sg od aw tb md ql dr : Nat → Int32) (x : Nat) (y : Nat) (k : Nat) (z : Nat) (hx6 : x < 6)(hy8 : y < 8)(hk8 : k < 8)(hz8 : z < 8) : KC l yX0_take wsX0_take rmX0_take G [(cB, .byte), (cI, .int), (cZ, .boolean)] tc [.ref (a 2), .int (nI x), .int (nI z), .int (nI y), .int (nI (k + 1))] (wd a cB cI cZ gv rn lv rc lk ss rw sg qc od aw tb md ql dr) (fun v w' => v = none ∧ w' = (wd a cB cI cZ gv rn (upd lv (64 * x + 8 * y + k) (nI z)) rc lk ss rw sg qc od aw tb md ql dr)) := by
  refine KC.of (cc := cX0_take) (maxL := 5) (ret := none) (by decide) rfl (Nat.le_of_ble_eq_true rfl) ?_
  intro p e s m below meth c args A Q ls hx hb hml hown hts hK hZ hA hP hD hS hl hri hrv
  have hown : s.vm.findClass RX0 = some m.cls := hown
  have hl : lv_has ls 5 [(0, .ref (a 2)), (1, .int (nI x)), (2, .int (nI z)), (3, .int (nI y)), (4, .int (nI (k + 1)))] := hl
  have fl_11 := hts (.fieldLink RX0 11 "LockDesk$Holdings" "levels" "[B") (by decide +kernel)
  have hin0 : ∀ w ∈ wsX00, w ∈ wsX0_take := by decide +kernel
  refine lv_aload_n hx hb dX0_take_0 rfl (lv_at hl 0 rfl) ?_
  refine va_get (D := G) (ci := 0) (v := .ref (a 6)) (C := RX0) (T := TX0) (N := 1) hx hb hts hin0 hown hK hP 2 rfl rfl 0 (by decide) fl_11 (fun _ h9 => h9) rfl dX0_take_1 ?_
  refine lv_iload_n hx hb dX0_take_4 rfl (lv_at hl 1 rfl) ?_
  refine lv_iload_n hx hb dX0_take_5 rfl (lv_at hl 3 rfl) ?_
  refine lv_iload hx hb dX0_take_6 (lv_at hl 4 rfl) ?_
  refine kS (As := [.int (nI x), .int (nI y), .int (nI (k + 1))]) (rest := [.ref (a 6)]) ⟨hx, hb, hml, hown, hts⟩ (c_X0_cell l G [(cB, .byte), (cI, .int), (cZ, .boolean)] tc (wd a cB cI cZ gv rn lv rc lk ss rw sg qc od aw tb md ql dr) x y k) (va_cwS 3 hts gX0_take_X0_cell rfl rfl rfl (by decide +kernel) ⟨by decide, by decide⟩) hK hZ hA hP hD hS rfl hl.1 rfl (Nat.le_of_ble_eq_true rfl) dX0_take_8 ⟨Nat.zero_le _, Nat.zero_le _⟩ (fun v w' H locs hp hP hD hS => ?_)
  obtain ⟨rfl, rfl⟩ := hp
  have hP : va_P G vwCl (wd a cB cI cZ gv rn lv rc lk ss rw sg qc od aw tb md ql dr) H := hP
  have hD : va_D A (wd a cB cI cZ gv rn lv rc lk ss rw sg qc od aw tb md ql dr) := hD
  refine W.eq (g2 := F0 m 11 ls [.int (nI (64 * x + 8 * y + k)), .ref (a 6)]) rfl ?_
  refine lv_iload_n hx hb dX0_take_11 rfl (lv_at hl 2 rfl) ?_
  refine lv_i2b (v := nI z) hx hb dX0_take_12 (px_b8 z (by omega)) ?_
  refine fw_bast (j := (64 * x + 8 * y + k)) (f := lv) (x := nI z) hx hb hK hP hD hS 6 0 rfl rfl (by omega) (by decide) (px_n8 z (by omega)) dX0_take_13 (fun H locs hP hD hS => ?_)
  have hP : va_P G vwCl (wd a cB cI cZ gv rn (upd lv (64 * x + 8 * y + k) (nI z)) rc lk ss rw sg qc od aw tb md ql dr) H := hP
  have hD : va_D A (wd a cB cI cZ gv rn (upd lv (64 * x + 8 * y + k) (nI z)) rc lk ss rw sg qc od aw tb md ql dr) := hD
  exact hrv rfl _ _ _ _ _ (⟨rfl, rfl⟩) hP hD hS dX0_take_14

abbrev rmX0_standAgainst : Room := { frames := 2, cells := 0, slots := 0, locals := 42 }
set_option maxHeartbeats 4000000 in
set_option maxRecDepth 100000 in
theorem c_X0_standAgainst (l : Launch) (G : va_G) (cB cI cZ : ClassId) (tc : Nat) (a : Nat → Nat) (gv rc qc : Int32) (rn lv lk ss rw sg od aw tb md ql dr : Nat → Int32) (x : Nat) (y : Nat) (k : Nat) (hx6 : x < 6)(hy8 : y < 8)(hk9 : k < 9) : KC l yX0_standAgainst wsX0_standAgainst rmX0_standAgainst G [(cB, .byte), (cI, .int), (cZ, .boolean)] tc [.ref (a 2), .int (nI x), .int (nI y), .int (nI k)] (wd a cB cI cZ gv rn lv rc lk ss rw sg qc od aw tb md ql dr) (fun v w' => v = some (.int (fw_b (px_sa lv x y k))) ∧ w' = (wd a cB cI cZ gv rn lv rc lk ss rw sg qc od aw tb md ql dr)) := by
  refine KC.of (cc := cX0_standAgainst) (maxL := 5) (ret := some .boolean) (by decide) rfl (Nat.le_of_ble_eq_true rfl) ?_
  intro p e s m below meth c args A Q ls hx hb hml hown hts hK hZ hA hP hD hS hl hri hrv
  have hown : s.vm.findClass RX0 = some m.cls := hown
  have hl : lv_has ls 5 [(0, .ref (a 2)), (1, .int (nI x)), (2, .int (nI y)), (3, .int (nI k))] := hl
  have fl_11 := hts (.fieldLink RX0 11 "LockDesk$Holdings" "levels" "[B") (by decide +kernel)
  have hin0 : ∀ w ∈ wsX00, w ∈ wsX0_standAgainst := by decide +kernel
  refine lv_iconst (v := 1) hx hb dX0_standAgainst_0 (by decide) ?_
  refine lv_istore (lv' := [(4, .int 1), (0, .ref (a 2)), (1, .int (nI x)), (2, .int (nI y)), (3, .int (nI k))]) hx hb dX0_standAgainst_1 hl (by decide) rfl (fun ls hl => ?_)
  have lp_3 : ∀ (nf : Nat) (i : Nat) (H : Heap) (locs : List Loc) (ls : Array Slot), 8 - i < nf → (i ≤ 8) → (px_any (px_saP lv x y k) i = false) → va_P G vwCl (wd a cB cI cZ gv rn lv rc lk ss rw sg qc od aw tb md ql dr) H → va_D A (wd a cB cI cZ gv rn lv rc lk ss rw sg qc od aw tb md ql dr) → va_S A s.heap H locs → lv_has ls 5 [(4, .int (nI (i + 1))), (0, .ref (a 2)), (1, .int (nI x)), (2, .int (nI y)), (3, .int (nI k))] → W p l e rmX0_standAgainst s m args below meth c H locs 0 0 Q (F0 m 3 ls []) := by
    intro nf
    induction nf with
    | zero => intro i H locs ls h0; exact absurd h0 (Nat.not_lt_zero _)
    | succ nf_3 ih_3 =>
      intro i H locs ls hn_3 hi hno hP hD hS hl
      refine lv_iload hx hb dX0_standAgainst_3 (lv_at hl 0 rfl) ?_
      refine lv_bipush (v := 8) hx hb dX0_standAgainst_5 (by decide) ?_
      refine lv_icmp_gt (tgt := 43) hx hb dX0_standAgainst_7 (by decide) (fun c_7 => ?_) (fun c_7 => ?_)
      · have h8 : i = 8 := by
          have := fw_gt (a := 8) c_7 (by decide) (by omega)
          omega
        subst h8
        refine lv_iconst (v := 0) hx hb dX0_standAgainst_43 (by decide) ?_
        exact hri _ rfl 0 _ _ _ _ _ (by decide) (⟨by rw [px_sa, hno]; rfl, rfl⟩) hP hD hS dX0_standAgainst_44
      · have h8 : i < 8 := by
          have := fw_ngt (a := 8) c_7 (by decide) (by omega)
          omega
        refine lv_iload_n hx hb dX0_standAgainst_10 rfl (lv_at hl 4 rfl) ?_
        refine lv_iload hx hb dX0_standAgainst_11 (lv_at hl 0 rfl) ?_
        refine kSN (As := [.int (nI k), .int (nI (i + 1))]) (rest := []) ⟨hx, hb, hml, hown, hts⟩ (c_X4_conflict l G [(cB, .byte), (cI, .int), (cZ, .boolean)] tc (wd a cB cI cZ gv rn lv rc lk ss rw sg qc od aw tb md ql dr) k (nI (i + 1)) hk9) (⟨va_cnB 2 hts gX0_standAgainst_X4_conflict_n25 rfl rfl rfl (hZ.1) (hts (.initialized RX4) (by decide +kernel)) (by decide +kernel) ⟨by decide, by decide⟩, hts (.static yX4_conflict) (by decide +kernel), trivial⟩) hK hZ hA hP hD hS rfl hl.1 rfl (Nat.le_of_ble_eq_true rfl) dX0_standAgainst_13 ⟨Nat.zero_le _, Nat.zero_le _⟩ (fun v w' H locs hp hP hD hS => ?_)
        obtain ⟨rfl, rfl⟩ := hp
        have hP : va_P G vwCl (wd a cB cI cZ gv rn lv rc lk ss rw sg qc od aw tb md ql dr) H := hP
        have hD : va_D A (wd a cB cI cZ gv rn lv rc lk ss rw sg qc od aw tb md ql dr) := hD
        refine W.eq (g2 := F0 m 16 ls [.int (fw_b (px_cf k (nI (i + 1))))]) rfl ?_
        refine lv_if_eq (tgt := 37) hx hb dX0_standAgainst_16 (by decide) (fun c_16 => ?_) (fun c_16 => ?_)
        · have c_16 := fw_b0.mp c_16
          refine lv_iinc (v := nI ((i + 1) + 1)) (lv' := [(4, .int (nI ((i + 1) + 1))), (0, .ref (a 2)), (1, .int (nI x)), (2, .int (nI y)), (3, .int (nI k))]) hx hb dX0_standAgainst_37 hl (k := 0) rfl (fw_inc _) (by decide) rfl (fun ls hl => ?_)
          refine lv_goto (tgt := 3) hx hb dX0_standAgainst_40 (by decide) ?_
          exact ih_3 (i + 1) _ _ _ (by omega) (by omega) (px_anyS hno (by simp [px_saP, c_16])) hP hD hS (lv_sub hl [0, 1, 2, 3, 4] rfl)
        · have c_16 := fw_b1.mp c_16
          refine lv_aload_n hx hb dX0_standAgainst_19 rfl (lv_at hl 1 rfl) ?_
          refine va_get (D := G) (ci := 0) (v := .ref (a 6)) (C := RX0) (T := TX0) (N := 1) hx hb hts hin0 hown hK hP 2 rfl rfl 0 (by decide) fl_11 (fun _ h9 => h9) rfl dX0_standAgainst_20 ?_
          refine lv_iload_n hx hb dX0_standAgainst_23 rfl (lv_at hl 2 rfl) ?_
          refine lv_iload_n hx hb dX0_standAgainst_24 rfl (lv_at hl 3 rfl) ?_
          refine lv_iload hx hb dX0_standAgainst_25 (lv_at hl 0 rfl) ?_
          refine kS (As := [.int (nI x), .int (nI y), .int (nI (i + 1))]) (rest := [.ref (a 6)]) ⟨hx, hb, hml, hown, hts⟩ (c_X0_cell l G [(cB, .byte), (cI, .int), (cZ, .boolean)] tc (wd a cB cI cZ gv rn lv rc lk ss rw sg qc od aw tb md ql dr) x y i) (va_cwS 3 hts gX0_standAgainst_X0_cell rfl rfl rfl (by decide +kernel) ⟨by decide, by decide⟩) hK hZ hA hP hD hS rfl hl.1 rfl (Nat.le_of_ble_eq_true rfl) dX0_standAgainst_27 ⟨Nat.zero_le _, Nat.zero_le _⟩ (fun v w' H locs hp hP hD hS => ?_)
          obtain ⟨rfl, rfl⟩ := hp
          have hP : va_P G vwCl (wd a cB cI cZ gv rn lv rc lk ss rw sg qc od aw tb md ql dr) H := hP
          have hD : va_D A (wd a cB cI cZ gv rn lv rc lk ss rw sg qc od aw tb md ql dr) := hD
          refine W.eq (g2 := F0 m 30 ls [.int (nI (64 * x + 8 * y + i)), .ref (a 6)]) rfl ?_
          refine fw_bald (j := (64 * x + 8 * y + i)) (f := lv) hx hb hK hP 6 0 rfl rfl (by omega) (by decide) dX0_standAgainst_30 ?_
          refine lv_iconst (v := (-1)) hx hb dX0_standAgainst_31 (by decide) ?_
          refine lv_icmp_eq (tgt := 37) hx hb dX0_standAgainst_32 (by decide) (fun c_32 => ?_) (fun c_32 => ?_)
          · refine lv_iinc (v := nI ((i + 1) + 1)) (lv' := [(4, .int (nI ((i + 1) + 1))), (0, .ref (a 2)), (1, .int (nI x)), (2, .int (nI y)), (3, .int (nI k))]) hx hb dX0_standAgainst_37 hl (k := 0) rfl (fw_inc _) (by decide) rfl (fun ls hl => ?_)
            refine lv_goto (tgt := 3) hx hb dX0_standAgainst_40 (by decide) ?_
            exact ih_3 (i + 1) _ _ _ (by omega) (by omega) (px_anyS hno (by simp [px_saP, c_16, c_32])) hP hD hS (lv_sub hl [0, 1, 2, 3, 4] rfl)
          · refine lv_iconst (v := 1) hx hb dX0_standAgainst_35 (by decide) ?_
            exact hri _ rfl 1 _ _ _ _ _ (by decide) (⟨by rw [px_sa, px_anyT (i := i) (by simp [px_saP, c_16, c_32]) h8]; rfl, rfl⟩) hP hD hS dX0_standAgainst_36
  exact lp_3 _ 0 _ _ _ (Nat.lt_succ_self _) (by omega) (rfl) hP hD hS (lv_sub hl [0, 1, 2, 3, 4] rfl)

abbrev rmX0_replaceFrom : Room := { frames := 1, cells := 0, slots := 0, locals := 22 }
set_option maxHeartbeats 4000000 in
set_option maxRecDepth 100000 in
theorem c_X0_replaceFrom (l : Launch) (G : va_G) (cB cI cZ : ClassId) (tc : Nat) (a : Nat → Nat) (gv rc qc : Int32) (rn lv lk ss rw sg od aw tb md ql dr : Nat → Int32) (x : Nat) (lo : Int32) (lev : Int32) (hx6 : x < 6)(hb1 : lev.toInt8.toInt32 = lev) (hb2 : vp_nar .byte lev = lev) : KC l yX0_replaceFrom wsX0_replaceFrom rmX0_replaceFrom G [(cB, .byte), (cI, .int), (cZ, .boolean)] tc [.ref (a 2), .int (nI x), .int lo, .int lev] (wd a cB cI cZ gv rn lv rc lk ss rw sg qc od aw tb md ql dr) (fun v w' => v = none ∧ w' = (wd a cB cI cZ gv rn (px_rep x lo lev lv) rc lk ss rw sg qc od aw tb md ql dr)) := by
  refine KC.of (cc := cX0_replaceFrom) (maxL := 6) (ret := none) (by decide) rfl (Nat.le_of_ble_eq_true rfl) ?_
  intro p e s m below meth c args A Q ls hx hb hml hown hts hK hZ hA hP hD hS hl hri hrv
  have hown : s.vm.findClass RX0 = some m.cls := hown
  have hl : lv_has ls 6 [(0, .ref (a 2)), (1, .int (nI x)), (2, .int lo), (3, .int lev)] := hl
  have fl_11 := hts (.fieldLink RX0 11 "LockDesk$Holdings" "levels" "[B") (by decide +kernel)
  have hin0 : ∀ w ∈ wsX00, w ∈ wsX0_replaceFrom := by decide +kernel
  refine lv_iload_n hx hb dX0_replaceFrom_0 rfl (lv_at hl 1 rfl) ?_
  refine lv_iconst (v := 0) hx hb dX0_replaceFrom_1 (by decide) ?_
  refine lv_iconst (v := 1) hx hb dX0_replaceFrom_2 (by decide) ?_
  refine kS (As := [.int (nI x), .int 0, .int 1]) (rest := []) ⟨hx, hb, hml, hown, hts⟩ (c_X0_cell l G [(cB, .byte), (cI, .int), (cZ, .boolean)] tc (wd a cB cI cZ gv rn lv rc lk ss rw sg qc od aw tb md ql dr) x 0 0) (va_cwS 3 hts gX0_replaceFrom_X0_cell rfl rfl rfl (by decide +kernel) ⟨by decide, by decide⟩) hK hZ hA hP hD hS rfl hl.1 rfl (Nat.le_of_ble_eq_true rfl) dX0_replaceFrom_3 ⟨Nat.zero_le _, Nat.zero_le _⟩ (fun v w' H locs hp hP hD hS => ?_)
  obtain ⟨rfl, rfl⟩ := hp
  have hP : va_P G vwCl (wd a cB cI cZ gv rn lv rc lk ss rw sg qc od aw tb md ql dr) H := hP
  have hD : va_D A (wd a cB cI cZ gv rn lv rc lk ss rw sg qc od aw tb md ql dr) := hD
  refine W.eq (g2 := F0 m 6 ls [.int (nI (64 * x))]) rfl ?_
  refine lv_istore (lv' := [(4, .int (nI (64 * x))), (0, .ref (a 2)), (1, .int (nI x)), (2, .int lo), (3, .int lev)]) hx hb dX0_replaceFrom_6 hl (by decide) rfl (fun ls hl => ?_)
  refine lv_iload hx hb dX0_replaceFrom_8 (lv_at hl 0 rfl) ?_
  refine lv_istore (lv' := [(5, .int (nI (64 * x))), (4, .int (nI (64 * x))), (0, .ref (a 2)), (1, .int (nI x)), (2, .int lo), (3, .int lev)]) hx hb dX0_replaceFrom_10 hl (by decide) rfl (fun ls hl => ?_)
  have lp_12 : ∀ (nf : Nat) (i : Nat) (f : Nat → Int32) (H : Heap) (locs : List Loc) (ls : Array Slot), 64 - i < nf → (i ≤ 64) → (f = fw_it (px_repS x lo lev) i lv) → va_P G vwCl (wd a cB cI cZ gv rn f rc lk ss rw sg qc od aw tb md ql dr) H → va_D A (wd a cB cI cZ gv rn f rc lk ss rw sg qc od aw tb md ql dr) → va_S A s.heap H locs → lv_has ls 6 [(5, .int (nI (64 * x + i))), (4, .int (nI (64 * x))), (0, .ref (a 2)), (1, .int (nI x)), (2, .int lo), (3, .int lev)] → W p l e rmX0_replaceFrom s m args below meth c H locs 0 0 Q (F0 m 12 ls []) := by
    intro nf
    induction nf with
    | zero => intro i f H locs ls h0; exact absurd h0 (Nat.not_lt_zero _)
    | succ nf_12 ih_12 =>
      intro i f H locs ls hn_12 hi hf hP hD hS hl
      refine lv_iload hx hb dX0_replaceFrom_12 (lv_at hl 0 rfl) ?_
      refine lv_iload hx hb dX0_replaceFrom_14 (lv_at hl 1 rfl) ?_
      refine lv_bipush (v := 64) hx hb dX0_replaceFrom_16 (by decide) ?_
      refine lv_iadd hx hb dX0_replaceFrom_18 ?_
      refine lv_icmp_ge (tgt := 48) hx hb dX0_replaceFrom_19 (by decide) (fun c_19 => ?_) (fun c_19 => ?_)
      · have h64 : i = 64 := by
          have := fw_nle (by rw [px_e64] at c_19; exact c_19) (by omega) (by omega)
          omega
        subst h64
        exact hrv rfl _ _ _ _ _ (⟨rfl, by rw [hf]; rfl⟩) hP hD hS dX0_replaceFrom_48
      · have h64 : i < 64 := by
          have := fw_nlt (by rw [px_e64] at c_19; exact c_19) (by omega) (by omega)
          omega
        refine lv_aload_n hx hb dX0_replaceFrom_22 rfl (lv_at hl 2 rfl) ?_
        refine va_get (D := G) (ci := 0) (v := .ref (a 6)) (C := RX0) (T := TX0) (N := 1) hx hb hts hin0 hown hK hP 2 rfl rfl 0 (by decide) fl_11 (fun _ h9 => h9) rfl dX0_replaceFrom_23 ?_
        refine lv_iload hx hb dX0_replaceFrom_26 (lv_at hl 0 rfl) ?_
        refine fw_bald (j := (64 * x + i)) (f := f) hx hb hK hP 6 0 rfl rfl (by omega) (by decide) dX0_replaceFrom_28 ?_
        refine lv_iload_n hx hb dX0_replaceFrom_29 rfl (lv_at hl 4 rfl) ?_
        refine lv_icmp_lt (tgt := 42) hx hb dX0_replaceFrom_30 (by decide) (fun c_30 => ?_) (fun c_30 => ?_)
        · refine lv_iinc (v := nI (64 * x + (i + 1))) (lv' := [(5, .int (nI (64 * x + (i + 1)))), (4, .int (nI (64 * x))), (0, .ref (a 2)), (1, .int (nI x)), (2, .int lo), (3, .int lev)]) hx hb dX0_replaceFrom_42 hl (k := 0) rfl (fw_inc _) (by decide) rfl (fun ls hl => ?_)
          refine lv_goto (tgt := 12) hx hb dX0_replaceFrom_45 (by decide) ?_
          exact ih_12 (i + 1) f _ _ _ (by omega) (by omega) (by rw [fw_itS, ← hf]; simp [px_repS, c_30]) hP hD hS (lv_sub hl [0, 1, 2, 3, 4, 5] rfl)
        · refine lv_aload_n hx hb dX0_replaceFrom_33 rfl (lv_at hl 2 rfl) ?_
          refine va_get (D := G) (ci := 0) (v := .ref (a 6)) (C := RX0) (T := TX0) (N := 1) hx hb hts hin0 hown hK hP 2 rfl rfl 0 (by decide) fl_11 (fun _ h9 => h9) rfl dX0_replaceFrom_34 ?_
          refine lv_iload hx hb dX0_replaceFrom_37 (lv_at hl 0 rfl) ?_
          refine lv_iload_n hx hb dX0_replaceFrom_39 rfl (lv_at hl 5 rfl) ?_
          refine lv_i2b (v := lev) hx hb dX0_replaceFrom_40 (hb1) ?_
          refine fw_bast (j := (64 * x + i)) (f := f) (x := lev) hx hb hK hP hD hS 6 0 rfl rfl (by omega) (by decide) (hb2) dX0_replaceFrom_41 (fun H locs hP hD hS => ?_)
          have hP : va_P G vwCl (wd a cB cI cZ gv rn (upd f (64 * x + i) lev) rc lk ss rw sg qc od aw tb md ql dr) H := hP
          have hD : va_D A (wd a cB cI cZ gv rn (upd f (64 * x + i) lev) rc lk ss rw sg qc od aw tb md ql dr) := hD
          refine lv_iinc (v := nI (64 * x + (i + 1))) (lv' := [(5, .int (nI (64 * x + (i + 1)))), (4, .int (nI (64 * x))), (0, .ref (a 2)), (1, .int (nI x)), (2, .int lo), (3, .int lev)]) hx hb dX0_replaceFrom_42 hl (k := 0) rfl (fw_inc _) (by decide) rfl (fun ls hl => ?_)
          refine lv_goto (tgt := 12) hx hb dX0_replaceFrom_45 (by decide) ?_
          exact ih_12 (i + 1) (upd f (64 * x + i) lev) _ _ _ (by omega) (by omega) (by rw [fw_itS, ← hf]; simp [px_repS, c_30]) hP hD hS (lv_sub hl [0, 1, 2, 3, 4, 5] rfl)
  exact lp_12 _ 0 lv _ _ _ (Nat.lt_succ_self _) (by omega) (rfl) hP hD hS (lv_sub hl [0, 1, 2, 3, 4, 5] rfl)

abbrev rmX0_giveUp : Room := { frames := 2, cells := 0, slots := 0, locals := 47 }
set_option maxHeartbeats 4000000 in
set_option maxRecDepth 100000 in
theorem c_X0_giveUp (l : Launch) (G : va_G) (cB cI cZ : ClassId) (tc : Nat) (a : Nat → Nat) (gv rc qc : Int32) (rn lv lk ss rw sg od aw tb md ql dr : Nat → Int32) (x : Nat) (lo : Int32) (hx6 : x < 6) : KC l yX0_giveUp wsX0_giveUp rmX0_giveUp G [(cB, .byte), (cI, .int), (cZ, .boolean)] tc [.ref (a 2), .int (nI x), .int lo] (wd a cB cI cZ gv rn lv rc lk ss rw sg qc od aw tb md ql dr) (fun v w' => v = none ∧ w' = (wd a cB cI cZ gv rn (px_rep x lo (-1) lv) rc lk ss rw sg qc od aw tb md ql dr)) := by
  refine KC.of (cc := cX0_giveUp) (maxL := 3) (ret := none) (by decide) rfl (Nat.le_of_ble_eq_true rfl) ?_
  intro p e s m below meth c args A Q ls hx hb hml hown hts hK hZ hA hP hD hS hl hri hrv
  have hown : s.vm.findClass RX0 = some m.cls := hown
  have hl : lv_has ls 3 [(0, .ref (a 2)), (1, .int (nI x)), (2, .int lo)] := hl
  refine lv_aload_n hx hb dX0_giveUp_0 rfl (lv_at hl 0 rfl) ?_
  refine lv_iload_n hx hb dX0_giveUp_1 rfl (lv_at hl 1 rfl) ?_
  refine lv_iload_n hx hb dX0_giveUp_2 rfl (lv_at hl 2 rfl) ?_
  refine lv_iconst (v := (-1)) hx hb dX0_giveUp_3 (by decide) ?_
  refine kV (As := [.int (nI x), .int lo, .int (-1)]) (rest := []) ⟨hx, hb, hml, hown, hts⟩ (c_X0_replaceFrom l G cB cI cZ tc a gv rc qc rn lv lk ss rw sg od aw tb md ql dr x lo (-1) hx6 (by decide) (by decide)) (cwV 3 hts gX0_giveUp_X0_replaceFrom rfl rfl rfl (by decide +kernel) ⟨by decide, by decide⟩) hK hZ hA hP hD hS 2 0 rfl rfl rfl hl.1 rfl (Nat.le_of_ble_eq_true rfl) dX0_giveUp_4 ⟨Nat.zero_le _, Nat.zero_le _⟩ (fun v w' H locs hp hP hD hS => ?_)
  obtain ⟨rfl, rfl⟩ := hp
  have hP : va_P G vwCl (wd a cB cI cZ gv rn (px_rep x lo (-1) lv) rc lk ss rw sg qc od aw tb md ql dr) H := hP
  have hD : va_D A (wd a cB cI cZ gv rn (px_rep x lo (-1) lv) rc lk ss rw sg qc od aw tb md ql dr) := hD
  refine W.eq (g2 := F0 m 7 ls []) rfl ?_
  exact hrv rfl _ _ _ _ _ (⟨rfl, rfl⟩) hP hD hS dX0_giveUp_7

abbrev rmX0_lower : Room := { frames := 2, cells := 0, slots := 0, locals := 47 }
set_option maxHeartbeats 4000000 in
set_option maxRecDepth 100000 in
theorem c_X0_lower (l : Launch) (G : va_G) (cB cI cZ : ClassId) (tc : Nat) (a : Nat → Nat) (gv rc qc : Int32) (rn lv lk ss rw sg od aw tb md ql dr : Nat → Int32) (x : Nat) (z : Nat) (hx6 : x < 6)(hz7 : z < 7) : KC l yX0_lower wsX0_lower rmX0_lower G [(cB, .byte), (cI, .int), (cZ, .boolean)] tc [.ref (a 2), .int (nI x), .int (nI (z + 1))] (wd a cB cI cZ gv rn lv rc lk ss rw sg qc od aw tb md ql dr) (fun v w' => v = none ∧ w' = (wd a cB cI cZ gv rn (px_rep x (nI (z + 1)) (nI z) lv) rc lk ss rw sg qc od aw tb md ql dr)) := by
  refine KC.of (cc := cX0_lower) (maxL := 3) (ret := none) (by decide) rfl (Nat.le_of_ble_eq_true rfl) ?_
  intro p e s m below meth c args A Q ls hx hb hml hown hts hK hZ hA hP hD hS hl hri hrv
  have hown : s.vm.findClass RX0 = some m.cls := hown
  have hl : lv_has ls 3 [(0, .ref (a 2)), (1, .int (nI x)), (2, .int (nI (z + 1)))] := hl
  refine lv_aload_n hx hb dX0_lower_0 rfl (lv_at hl 0 rfl) ?_
  refine lv_iload_n hx hb dX0_lower_1 rfl (lv_at hl 1 rfl) ?_
  refine lv_iload_n hx hb dX0_lower_2 rfl (lv_at hl 2 rfl) ?_
  refine lv_iload_n hx hb dX0_lower_3 rfl (lv_at hl 2 rfl) ?_
  refine lv_iconst (v := 1) hx hb dX0_lower_4 (by decide) ?_
  refine lv_isub hx hb dX0_lower_5 ?_
  rw [nI_pred z]
  refine kV (As := [.int (nI x), .int (nI (z + 1)), .int (nI z)]) (rest := []) ⟨hx, hb, hml, hown, hts⟩ (c_X0_replaceFrom l G cB cI cZ tc a gv rc qc rn lv lk ss rw sg od aw tb md ql dr x (nI (z + 1)) (nI z) hx6 (px_b8 z (by omega)) (px_n8 z (by omega))) (cwV 3 hts gX0_lower_X0_replaceFrom rfl rfl rfl (by decide +kernel) ⟨by decide, by decide⟩) hK hZ hA hP hD hS 2 0 rfl rfl rfl hl.1 rfl (Nat.le_of_ble_eq_true rfl) dX0_lower_6 ⟨Nat.zero_le _, Nat.zero_le _⟩ (fun v w' H locs hp hP hD hS => ?_)
  obtain ⟨rfl, rfl⟩ := hp
  have hP : va_P G vwCl (wd a cB cI cZ gv rn (px_rep x (nI (z + 1)) (nI z) lv) rc lk ss rw sg qc od aw tb md ql dr) H := hP
  have hD : va_D A (wd a cB cI cZ gv rn (px_rep x (nI (z + 1)) (nI z) lv) rc lk ss rw sg qc od aw tb md ql dr) := hD
  refine W.eq (g2 := F0 m 9 ls []) rfl ?_
  exact hrv rfl _ _ _ _ _ (⟨rfl, rfl⟩) hP hD hS dX0_lower_9

abbrev rmX0_forgetTable : Room := { frames := 1, cells := 0, slots := 0, locals := 22 }
set_option maxHeartbeats 4000000 in
set_option maxRecDepth 100000 in
theorem c_X0_forgetTable (l : Launch) (G : va_G) (cB cI cZ : ClassId) (tc : Nat) (a : Nat → Nat) (gv rc qc : Int32) (rn lv lk ss rw sg od aw tb md ql dr : Nat → Int32) (y : Nat) (hy8 : y < 8) : KC l yX0_forgetTable wsX0_forgetTable rmX0_forgetTable G [(cB, .byte), (cI, .int), (cZ, .boolean)] tc [.ref (a 2), .int (nI y)] (wd a cB cI cZ gv rn lv rc lk ss rw sg qc od aw tb md ql dr) (fun v w' => v = none ∧ w' = (wd a cB cI cZ gv rn (px_fg y lv) rc lk ss rw sg qc od aw tb md ql dr)) := by
  refine KC.of (cc := cX0_forgetTable) (maxL := 4) (ret := none) (by decide) rfl (Nat.le_of_ble_eq_true rfl) ?_
  intro p e s m below meth c args A Q ls hx hb hml hown hts hK hZ hA hP hD hS hl hri hrv
  have hown : s.vm.findClass RX0 = some m.cls := hown
  have hl : lv_has ls 4 [(0, .ref (a 2)), (1, .int (nI y))] := hl
  have fl_11 := hts (.fieldLink RX0 11 "LockDesk$Holdings" "levels" "[B") (by decide +kernel)
  have hin0 : ∀ w ∈ wsX00, w ∈ wsX0_forgetTable := by decide +kernel
  refine lv_iconst (v := 0) hx hb dX0_forgetTable_0 (by decide) ?_
  refine lv_istore_n (lv' := [(2, .int 0), (0, .ref (a 2)), (1, .int (nI y))]) hx hb dX0_forgetTable_1 rfl hl (by decide) rfl (fun ls hl => ?_)
  have lp_2 : ∀ (nf : Nat) (x : Nat) (f : Nat → Int32) (H : Heap) (locs : List Loc) (ls : Array Slot), 6 - x < nf → (x ≤ 6) → (f = fw_it (px_fgO y) x lv) → va_P G vwCl (wd a cB cI cZ gv rn f rc lk ss rw sg qc od aw tb md ql dr) H → va_D A (wd a cB cI cZ gv rn f rc lk ss rw sg qc od aw tb md ql dr) → va_S A s.heap H locs → lv_has ls 4 [(2, .int (nI x)), (0, .ref (a 2)), (1, .int (nI y))] → W p l e rmX0_forgetTable s m args below meth c H locs 0 0 Q (F0 m 2 ls []) := by
    intro nf
    induction nf with
    | zero => intro x f H locs ls h0; exact absurd h0 (Nat.not_lt_zero _)
    | succ nf_2 ih_2 =>
      intro x f H locs ls hn_2 hx6 hf hP hD hS hl
      refine lv_iload_n hx hb dX0_forgetTable_2 rfl (lv_at hl 0 rfl) ?_
      refine lv_bipush (v := 6) hx hb dX0_forgetTable_3 (by decide) ?_
      refine lv_icmp_ge (tgt := 40) hx hb dX0_forgetTable_5 (by decide) (fun c_5 => ?_) (fun c_5 => ?_)
      · have h6 : x = 6 := by
          have := fw_nle (a := 6) c_5 (by omega) (by omega)
          omega
        subst h6
        exact hrv rfl _ _ _ _ _ (⟨rfl, by rw [hf]; rfl⟩) hP hD hS dX0_forgetTable_40
      · have h6 : x < 6 := by
          have := fw_nlt (a := 6) c_5 (by omega) (by omega)
          omega
        refine lv_iconst (v := 1) hx hb dX0_forgetTable_8 (by decide) ?_
        refine lv_istore_n (lv' := [(3, .int 1), (2, .int (nI x)), (0, .ref (a 2)), (1, .int (nI y))]) hx hb dX0_forgetTable_9 rfl hl (by decide) rfl (fun ls hl => ?_)
        have lp_10 : ∀ (nf : Nat) (k : Nat) (g : Nat → Int32) (H : Heap) (locs : List Loc) (ls : Array Slot), 8 - k < nf → (k ≤ 8) → (g = fw_it (px_fgS y x) k f) → va_P G vwCl (wd a cB cI cZ gv rn g rc lk ss rw sg qc od aw tb md ql dr) H → va_D A (wd a cB cI cZ gv rn g rc lk ss rw sg qc od aw tb md ql dr) → va_S A s.heap H locs → lv_has ls 4 [(3, .int (nI (k + 1))), (2, .int (nI x)), (0, .ref (a 2)), (1, .int (nI y))] → W p l e rmX0_forgetTable s m args below meth c H locs 0 0 Q (F0 m 10 ls []) := by
          intro nf
          induction nf with
          | zero => intro k g H locs ls h0; exact absurd h0 (Nat.not_lt_zero _)
          | succ nf_10 ih_10 =>
            intro k g H locs ls hn_10 hk8 hg hP hD hS hl
            refine lv_iload_n hx hb dX0_forgetTable_10 rfl (lv_at hl 0 rfl) ?_
            refine lv_bipush (v := 8) hx hb dX0_forgetTable_11 (by decide) ?_
            refine lv_icmp_gt (tgt := 34) hx hb dX0_forgetTable_13 (by decide) (fun c_13 => ?_) (fun c_13 => ?_)
            · have h8 : k = 8 := by
                have := fw_gt (a := 8) c_13 (by decide) (by omega)
                omega
              subst h8
              refine lv_iinc (v := nI (x + 1)) (lv' := [(2, .int (nI (x + 1))), (3, .int (nI (8 + 1))), (0, .ref (a 2)), (1, .int (nI y))]) hx hb dX0_forgetTable_34 hl (k := 1) rfl (fw_inc _) (by decide) rfl (fun ls hl => ?_)
              refine lv_goto (tgt := 2) hx hb dX0_forgetTable_37 (by decide) ?_
              exact ih_2 (x + 1) g _ _ _ (by omega) (by omega) (by rw [fw_itS, ← hf, hg]; rfl) hP hD hS (lv_sub hl [0, 2, 3] rfl)
            · have h8 : k < 8 := by
                have := fw_ngt (a := 8) c_13 (by decide) (by omega)
                omega
              refine lv_aload_n hx hb dX0_forgetTable_16 rfl (lv_at hl 2 rfl) ?_
              refine va_get (D := G) (ci := 0) (v := .ref (a 6)) (C := RX0) (T := TX0) (N := 1) hx hb hts hin0 hown hK hP 2 rfl rfl 0 (by decide) fl_11 (fun _ h9 => h9) rfl dX0_forgetTable_17 ?_
              refine lv_iload_n hx hb dX0_forgetTable_20 rfl (lv_at hl 1 rfl) ?_
              refine lv_iload_n hx hb dX0_forgetTable_21 rfl (lv_at hl 3 rfl) ?_
              refine lv_iload_n hx hb dX0_forgetTable_22 rfl (lv_at hl 0 rfl) ?_
              refine kS (As := [.int (nI x), .int (nI y), .int (nI (k + 1))]) (rest := [.ref (a 6)]) ⟨hx, hb, hml, hown, hts⟩ (c_X0_cell l G [(cB, .byte), (cI, .int), (cZ, .boolean)] tc (wd a cB cI cZ gv rn g rc lk ss rw sg qc od aw tb md ql dr) x y k) (va_cwS 3 hts gX0_forgetTable_X0_cell rfl rfl rfl (by decide +kernel) ⟨by decide, by decide⟩) hK hZ hA hP hD hS rfl hl.1 rfl (Nat.le_of_ble_eq_true rfl) dX0_forgetTable_23 ⟨Nat.zero_le _, Nat.zero_le _⟩ (fun v w' H locs hp hP hD hS => ?_)
              obtain ⟨rfl, rfl⟩ := hp
              have hP : va_P G vwCl (wd a cB cI cZ gv rn g rc lk ss rw sg qc od aw tb md ql dr) H := hP
              have hD : va_D A (wd a cB cI cZ gv rn g rc lk ss rw sg qc od aw tb md ql dr) := hD
              refine W.eq (g2 := F0 m 26 ls [.int (nI (64 * x + 8 * y + k)), .ref (a 6)]) rfl ?_
              refine lv_iconst (v := (-1)) hx hb dX0_forgetTable_26 (by decide) ?_
              refine fw_bast (j := (64 * x + 8 * y + k)) (f := g) (x := (-1)) hx hb hK hP hD hS 6 0 rfl rfl (by omega) (by decide) (by decide) dX0_forgetTable_27 (fun H locs hP hD hS => ?_)
              have hP : va_P G vwCl (wd a cB cI cZ gv rn (upd g (64 * x + 8 * y + k) (-1)) rc lk ss rw sg qc od aw tb md ql dr) H := hP
              have hD : va_D A (wd a cB cI cZ gv rn (upd g (64 * x + 8 * y + k) (-1)) rc lk ss rw sg qc od aw tb md ql dr) := hD
              refine lv_iinc (v := nI ((k + 1) + 1)) (lv' := [(3, .int (nI ((k + 1) + 1))), (2, .int (nI x)), (0, .ref (a 2)), (1, .int (nI y))]) hx hb dX0_forgetTable_28 hl (k := 0) rfl (fw_inc _) (by decide) rfl (fun ls hl => ?_)
              refine lv_goto (tgt := 10) hx hb dX0_forgetTable_31 (by decide) ?_
              exact ih_10 (k + 1) (upd g (64 * x + 8 * y + k) (-1)) _ _ _ (by omega) (by omega) (by rw [fw_itS, ← hg]; rfl) hP hD hS (lv_sub hl [0, 1, 2, 3] rfl)
        exact lp_10 _ 0 f _ _ _ (Nat.lt_succ_self _) (by omega) (rfl) hP hD hS (lv_sub hl [0, 1, 2, 3] rfl)
  exact lp_2 _ 0 lv _ _ _ (Nat.lt_succ_self _) (by omega) (rfl) hP hD hS (lv_sub hl [0, 1, 2] rfl)

abbrev rmX1_give : Room := { frames := 0, cells := 0, slots := 0, locals := 0 }
set_option maxHeartbeats 4000000 in
set_option maxRecDepth 100000 in
theorem c_X1_give (l : Launch) (G : va_G) (cB cI cZ : ClassId) (tc : Nat) (a : Nat → Nat) (rc qc : Int32) (rn lv lk ss rw sg od aw tb md ql dr : Nat → Int32) (g : Nat) (x : Nat) (hg : g < 4000)(hx6 : x < 6) : KC l yX1_give wsX1_give rmX1_give G [(cB, .byte), (cI, .int), (cZ, .boolean)] tc [.ref (a 1), .int (nI x)] (wd a cB cI cZ (nI g) rn lv rc lk ss rw sg qc od aw tb md ql dr) (fun v w' => v = some (.int (nI (g + 1))) ∧ w' = (wd a cB cI cZ (nI (g + 1)) (upd rn (g + 1) (nI x)) lv rc lk ss rw sg qc od aw tb md ql dr)) := by
  refine KC.of (cc := cX1_give) (maxL := 2) (ret := some .int) (by decide) rfl (Nat.le_of_ble_eq_true rfl) ?_
  intro p e s m below meth c args A Q ls hx hb hml hown hts hK hZ hA hP hD hS hl hri hrv
  have hown : s.vm.findClass RX1 = some m.cls := hown
  have hl : lv_has ls 2 [(0, .ref (a 1)), (1, .int (nI x))] := hl
  have fl_9 := hts (.fieldLink RX1 9 "LockDesk$Numbers" "runners" "[B") (by decide +kernel)
  have fl_15 := hts (.fieldLink RX1 15 "LockDesk$Numbers" "given" "I") (by decide +kernel)
  have hin1 : ∀ w ∈ wsX10, w ∈ wsX1_give := by decide +kernel
  refine lv_aload_n hx hb dX1_give_0 rfl (lv_at hl 0 rfl) ?_
  refine va_get (D := G) (ci := 1) (v := .int (nI g)) (C := RX1) (T := TX1) (N := 2) hx hb hts hin1 hown hK hP 1 rfl rfl 1 (by decide) fl_15 (fun _ h9 => h9) rfl dX1_give_1 ?_
  refine lv_sipush (v := 4000) hx hb dX1_give_4 (by decide) ?_
  refine lv_icmp_lt (tgt := 12) hx hb dX1_give_7 (by decide) (fun c_7 => ?_) (fun c_7 => absurd ((nI_ltI (b := 4000) (by omega) (by decide)).mpr hg) c_7)
  refine lv_aload_n hx hb dX1_give_12 rfl (lv_at hl 0 rfl) ?_
  refine lv_dup hx hb dX1_give_13 rfl ?_
  refine va_get (D := G) (ci := 1) (v := .int (nI g)) (C := RX1) (T := TX1) (N := 2) hx hb hts hin1 hown hK hP 1 rfl rfl 1 (by decide) fl_15 (fun _ h9 => h9) rfl dX1_give_14 ?_
  refine lv_iconst (v := 1) hx hb dX1_give_17 (by decide) ?_
  refine lv_iadd hx hb dX1_give_18 ?_
  rw [nI_1 g]
  refine va_put (D := G) (ci := 1) (v := .int (nI (g + 1))) (ty := .int) (C := RX1) (T := TX1) (N := 2) hx hb hts hin1 tyX1 tyX1_ok nmX1 hown hK hP hD hS 1 rfl rfl 1 (by decide) fl_15 (fun _ h9 => h9) rfl (by decide +kernel) rfl rfl (Nat.le_of_ble_eq_true rfl) dX1_give_19 (fun H locs hP hD hS => ?_)
  have hP : va_P G vwCl (wd a cB cI cZ (nI (g + 1)) rn lv rc lk ss rw sg qc od aw tb md ql dr) H := hP
  have hD : va_D A (wd a cB cI cZ (nI (g + 1)) rn lv rc lk ss rw sg qc od aw tb md ql dr) := hD
  refine lv_aload_n hx hb dX1_give_22 rfl (lv_at hl 0 rfl) ?_
  refine va_get (D := G) (ci := 1) (v := .ref (a 5)) (C := RX1) (T := TX1) (N := 2) hx hb hts hin1 hown hK hP 1 rfl rfl 0 (by decide) fl_9 (fun _ h9 => h9) rfl dX1_give_23 ?_
  refine lv_aload_n hx hb dX1_give_26 rfl (lv_at hl 0 rfl) ?_
  refine va_get (D := G) (ci := 1) (v := .int (nI (g + 1))) (C := RX1) (T := TX1) (N := 2) hx hb hts hin1 hown hK hP 1 rfl rfl 1 (by decide) fl_15 (fun _ h9 => h9) rfl dX1_give_27 ?_
  refine lv_iload_n hx hb dX1_give_30 rfl (lv_at hl 1 rfl) ?_
  refine lv_i2b (v := nI x) hx hb dX1_give_31 (px_b8 x (by omega)) ?_
  refine fw_bast (j := (g + 1)) (f := rn) (x := nI x) hx hb hK hP hD hS 5 0 rfl rfl (by omega) (by decide) (px_n8 x (by omega)) dX1_give_32 (fun H locs hP hD hS => ?_)
  have hP : va_P G vwCl (wd a cB cI cZ (nI (g + 1)) (upd rn (g + 1) (nI x)) lv rc lk ss rw sg qc od aw tb md ql dr) H := hP
  have hD : va_D A (wd a cB cI cZ (nI (g + 1)) (upd rn (g + 1) (nI x)) lv rc lk ss rw sg qc od aw tb md ql dr) := hD
  refine lv_aload_n hx hb dX1_give_33 rfl (lv_at hl 0 rfl) ?_
  refine va_get (D := G) (ci := 1) (v := .int (nI (g + 1))) (C := RX1) (T := TX1) (N := 2) hx hb hts hin1 hown hK hP 1 rfl rfl 1 (by decide) fl_15 (fun _ h9 => h9) rfl dX1_give_34 ?_
  exact hri _ rfl (nI (g + 1)) _ _ _ _ _ (rfl) (⟨rfl, rfl⟩) hP hD hS dX1_give_37

abbrev rmX1_wasGiven : Room := { frames := 0, cells := 0, slots := 0, locals := 0 }
set_option maxHeartbeats 4000000 in
set_option maxRecDepth 100000 in
theorem c_X1_wasGiven (l : Launch) (G : va_G) (cB cI cZ : ClassId) (tc : Nat) (a : Nat → Nat) (rc qc : Int32) (rn lv lk ss rw sg od aw tb md ql dr : Nat → Int32) (g : Nat) (x1 : Int32)  : KC l yX1_wasGiven wsX1_wasGiven rmX1_wasGiven G [(cB, .byte), (cI, .int), (cZ, .boolean)] tc [.ref (a 1), .int x1] (wd a cB cI cZ (nI g) rn lv rc lk ss rw sg qc od aw tb md ql dr) (fun v w' => v = some (.int (fw_b (px_was g x1))) ∧ w' = (wd a cB cI cZ (nI g) rn lv rc lk ss rw sg qc od aw tb md ql dr)) := by
  refine KC.of (cc := cX1_wasGiven) (maxL := 2) (ret := some .boolean) (by decide) rfl (Nat.le_of_ble_eq_true rfl) ?_
  intro p e s m below meth c args A Q ls hx hb hml hown hts hK hZ hA hP hD hS hl hri hrv
  have hown : s.vm.findClass RX1 = some m.cls := hown
  have hl : lv_has ls 2 [(0, .ref (a 1)), (1, .int x1)] := hl
  have fl_15 := hts (.fieldLink RX1 15 "LockDesk$Numbers" "given" "I") (by decide +kernel)
  have hin1 : ∀ w ∈ wsX10, w ∈ wsX1_wasGiven := by decide +kernel
  refine lv_iload_n hx hb dX1_wasGiven_0 rfl (lv_at hl 1 rfl) ?_
  refine lv_iconst (v := 1) hx hb dX1_wasGiven_1 (by decide) ?_
  refine lv_icmp_lt (tgt := 17) hx hb dX1_wasGiven_2 (by decide) (fun c_2 => ?_) (fun c_2 => ?_)
  · refine lv_iconst (v := 0) hx hb dX1_wasGiven_17 (by decide) ?_
    exact hri _ rfl 0 _ _ _ _ _ (by decide) (⟨by simp [px_was, fw_b, c_2], rfl⟩) hP hD hS dX1_wasGiven_18
  · refine lv_iload_n hx hb dX1_wasGiven_5 rfl (lv_at hl 1 rfl) ?_
    refine lv_aload_n hx hb dX1_wasGiven_6 rfl (lv_at hl 0 rfl) ?_
    refine va_get (D := G) (ci := 1) (v := .int (nI g)) (C := RX1) (T := TX1) (N := 2) hx hb hts hin1 hown hK hP 1 rfl rfl 1 (by decide) fl_15 (fun _ h9 => h9) rfl dX1_wasGiven_7 ?_
    refine lv_icmp_gt (tgt := 17) hx hb dX1_wasGiven_10 (by decide) (fun c_10 => ?_) (fun c_10 => ?_)
    · refine lv_iconst (v := 0) hx hb dX1_wasGiven_17 (by decide) ?_
      exact hri _ rfl 0 _ _ _ _ _ (by decide) (⟨by simp [px_was, fw_b, c_2, c_10], rfl⟩) hP hD hS dX1_wasGiven_18
    · refine lv_iconst (v := 1) hx hb dX1_wasGiven_13 (by decide) ?_
      refine lv_goto (tgt := 18) hx hb dX1_wasGiven_14 (by decide) ?_
      exact hri _ rfl 1 _ _ _ _ _ (by decide) (⟨by simp [px_was, fw_b, c_2, c_10], rfl⟩) hP hD hS dX1_wasGiven_18

abbrev rmX1_runnerOf : Room := { frames := 1, cells := 0, slots := 0, locals := 21 }
set_option maxHeartbeats 4000000 in
set_option maxRecDepth 100000 in
theorem c_X1_runnerOf (l : Launch) (G : va_G) (cB cI cZ : ClassId) (tc : Nat) (a : Nat → Nat) (rc qc : Int32) (rn lv lk ss rw sg od aw tb md ql dr : Nat → Int32) (g : Nat) (x1 : Int32) (hg : g < 4000) : KC l yX1_runnerOf wsX1_runnerOf rmX1_runnerOf G [(cB, .byte), (cI, .int), (cZ, .boolean)] tc [.ref (a 1), .int x1] (wd a cB cI cZ (nI g) rn lv rc lk ss rw sg qc od aw tb md ql dr) (fun v w' => v = some (.int (px_run g rn x1)) ∧ w' = (wd a cB cI cZ (nI g) rn lv rc lk ss rw sg qc od aw tb md ql dr)) := by
  refine KC.of (cc := cX1_runnerOf) (maxL := 2) (ret := some .int) (by decide) rfl (Nat.le_of_ble_eq_true rfl) ?_
  intro p e s m below meth c args A Q ls hx hb hml hown hts hK hZ hA hP hD hS hl hri hrv
  have hown : s.vm.findClass RX1 = some m.cls := hown
  have hl : lv_has ls 2 [(0, .ref (a 1)), (1, .int x1)] := hl
  have fl_9 := hts (.fieldLink RX1 9 "LockDesk$Numbers" "runners" "[B") (by decide +kernel)
  have hin1 : ∀ w ∈ wsX10, w ∈ wsX1_runnerOf := by decide +kernel
  refine lv_aload_n hx hb dX1_runnerOf_0 rfl (lv_at hl 0 rfl) ?_
  refine lv_iload_n hx hb dX1_runnerOf_1 rfl (lv_at hl 1 rfl) ?_
  refine kV (As := [.int x1]) (rest := []) ⟨hx, hb, hml, hown, hts⟩ (c_X1_wasGiven l G cB cI cZ tc a rc qc rn lv lk ss rw sg od aw tb md ql dr g x1) (cwV 1 hts gX1_runnerOf_X1_wasGiven rfl rfl rfl (by decide +kernel) ⟨by decide, by decide⟩) hK hZ hA hP hD hS 1 1 rfl rfl rfl hl.1 rfl (Nat.le_of_ble_eq_true rfl) dX1_runnerOf_2 ⟨Nat.zero_le _, Nat.zero_le _⟩ (fun v w' H locs hp hP hD hS => ?_)
  obtain ⟨rfl, rfl⟩ := hp
  have hP : va_P G vwCl (wd a cB cI cZ (nI g) rn lv rc lk ss rw sg qc od aw tb md ql dr) H := hP
  have hD : va_D A (wd a cB cI cZ (nI g) rn lv rc lk ss rw sg qc od aw tb md ql dr) := hD
  refine W.eq (g2 := F0 m 5 ls [.int (fw_b (px_was g x1))]) rfl ?_
  refine lv_if_eq (tgt := 17) hx hb dX1_runnerOf_5 (by decide) (fun c_5 => ?_) (fun c_5 => ?_)
  · have c_5 := fw_b0.mp c_5
    refine lv_iconst (v := (-1)) hx hb dX1_runnerOf_17 (by decide) ?_
    exact hri _ rfl (-1) _ _ _ _ _ (rfl) (⟨by simp [px_run, c_5], rfl⟩) hP hD hS dX1_runnerOf_18
  · have c_5 := fw_b1.mp c_5
    obtain ⟨k, hk1, hk2, rfl⟩ := px_was_of (by omega) c_5
    refine lv_aload_n hx hb dX1_runnerOf_8 rfl (lv_at hl 0 rfl) ?_
    refine va_get (D := G) (ci := 1) (v := .ref (a 5)) (C := RX1) (T := TX1) (N := 2) hx hb hts hin1 hown hK hP 1 rfl rfl 0 (by decide) fl_9 (fun _ h9 => h9) rfl dX1_runnerOf_9 ?_
    refine lv_iload_n hx hb dX1_runnerOf_12 rfl (lv_at hl 1 rfl) ?_
    refine fw_bald (j := k) (f := rn) hx hb hK hP 5 0 rfl rfl (by omega) (by decide) dX1_runnerOf_13 ?_
    refine lv_goto (tgt := 18) hx hb dX1_runnerOf_14 (by decide) ?_
    exact hri _ rfl (rn k) _ _ _ _ _ (rfl) (⟨by rw [px_run_nI (by omega) hk1 hk2], rfl⟩) hP hD hS dX1_runnerOf_18

abbrev rmX1_stop : Room := { frames := 1, cells := 0, slots := 0, locals := 21 }
set_option maxHeartbeats 4000000 in
set_option maxRecDepth 100000 in
theorem c_X1_stop (l : Launch) (G : va_G) (cB cI cZ : ClassId) (tc : Nat) (a : Nat → Nat) (rc qc : Int32) (rn lv lk ss rw sg od aw tb md ql dr : Nat → Int32) (g : Nat) (k : Nat) (hg : g < 4000)(hk1 : 1 ≤ k) (hk2 : k ≤ g) : KC l yX1_stop wsX1_stop rmX1_stop G [(cB, .byte), (cI, .int), (cZ, .boolean)] tc [.ref (a 1), .int (nI k)] (wd a cB cI cZ (nI g) rn lv rc lk ss rw sg qc od aw tb md ql dr) (fun v w' => v = none ∧ w' = (wd a cB cI cZ (nI g) (upd rn k (-1)) lv rc lk ss rw sg qc od aw tb md ql dr)) := by
  refine KC.of (cc := cX1_stop) (maxL := 2) (ret := none) (by decide) rfl (Nat.le_of_ble_eq_true rfl) ?_
  intro p e s m below meth c args A Q ls hx hb hml hown hts hK hZ hA hP hD hS hl hri hrv
  have hown : s.vm.findClass RX1 = some m.cls := hown
  have hl : lv_has ls 2 [(0, .ref (a 1)), (1, .int (nI k))] := hl
  have fl_9 := hts (.fieldLink RX1 9 "LockDesk$Numbers" "runners" "[B") (by decide +kernel)
  have hin1 : ∀ w ∈ wsX10, w ∈ wsX1_stop := by decide +kernel
  refine lv_aload_n hx hb dX1_stop_0 rfl (lv_at hl 0 rfl) ?_
  refine lv_iload_n hx hb dX1_stop_1 rfl (lv_at hl 1 rfl) ?_
  refine kV (As := [.int (nI k)]) (rest := []) ⟨hx, hb, hml, hown, hts⟩ (c_X1_wasGiven l G cB cI cZ tc a rc qc rn lv lk ss rw sg od aw tb md ql dr g (nI k)) (cwV 1 hts gX1_stop_X1_wasGiven rfl rfl rfl (by decide +kernel) ⟨by decide, by decide⟩) hK hZ hA hP hD hS 1 1 rfl rfl rfl hl.1 rfl (Nat.le_of_ble_eq_true rfl) dX1_stop_2 ⟨Nat.zero_le _, Nat.zero_le _⟩ (fun v w' H locs hp hP hD hS => ?_)
  obtain ⟨rfl, rfl⟩ := hp
  have hP : va_P G vwCl (wd a cB cI cZ (nI g) rn lv rc lk ss rw sg qc od aw tb md ql dr) H := hP
  have hD : va_D A (wd a cB cI cZ (nI g) rn lv rc lk ss rw sg qc od aw tb md ql dr) := hD
  refine W.eq (g2 := F0 m 5 ls [.int (fw_b (px_was g (nI k)))]) rfl ?_
  refine lv_if_eq (tgt := 15) hx hb dX1_stop_5 (by decide) (fun c_5 => False.elim (by rw [px_was_nI (by omega) hk1 hk2] at c_5; exact absurd c_5 (by decide))) (fun c_5 => ?_)
  have c_5 := fw_b1.mp c_5
  refine lv_aload_n hx hb dX1_stop_8 rfl (lv_at hl 0 rfl) ?_
  refine va_get (D := G) (ci := 1) (v := .ref (a 5)) (C := RX1) (T := TX1) (N := 2) hx hb hts hin1 hown hK hP 1 rfl rfl 0 (by decide) fl_9 (fun _ h9 => h9) rfl dX1_stop_9 ?_
  refine lv_iload_n hx hb dX1_stop_12 rfl (lv_at hl 1 rfl) ?_
  refine lv_iconst (v := (-1)) hx hb dX1_stop_13 (by decide) ?_
  refine fw_bast (j := k) (f := rn) (x := (-1)) hx hb hK hP hD hS 5 0 rfl rfl (by omega) (by decide) (by decide) dX1_stop_14 (fun H locs hP hD hS => ?_)
  have hP : va_P G vwCl (wd a cB cI cZ (nI g) (upd rn k (-1)) lv rc lk ss rw sg qc od aw tb md ql dr) H := hP
  have hD : va_D A (wd a cB cI cZ (nI g) (upd rn k (-1)) lv rc lk ss rw sg qc od aw tb md ql dr) := hD
  exact hrv rfl _ _ _ _ _ (⟨rfl, rfl⟩) hP hD hS dX1_stop_15
