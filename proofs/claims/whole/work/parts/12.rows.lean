abbrev rmX3_suffices : Room := { frames := 0, cells := 0, slots := 0, locals := 0 }
set_option maxHeartbeats 4000000 in
set_option maxRecDepth 100000 in
theorem c_X3_suffices (l : Launch) (G : va_G) (cB cI cZ : ClassId) (tc : Nat) (a : Nat → Nat) (gv qc : Int32) (rn lv lk ss rw sg od aw tb md ql dr : Nat → Int32) (n : Nat) (x1 : Int32) (x2 : Int32) (x3 : Int32) (hn5 : n ≤ 512) : KC l yX3_suffices wsX3_suffices rmX3_suffices G [(cB, .byte), (cI, .int), (cZ, .boolean)] tc [.ref (a 3), .int x1, .int x2, .int x3] (wd a cB cI cZ gv rn lv (nI n) lk ss rw sg qc od aw tb md ql dr) (fun v w' => v = some (.int (fw_b (px_any (px_sfP ss rw sg x1 x2 x3) n))) ∧ w' = (wd a cB cI cZ gv rn lv (nI n) lk ss rw sg qc od aw tb md ql dr)) := by
  refine KC.of (cc := cX3_suffices) (maxL := 5) (ret := some .boolean) (by decide) rfl (Nat.le_of_ble_eq_true rfl) ?_
  intro p e s m below meth c args A Q ls hx hb hml hown hts hK hZ hA hP hD hS hl hri hrv
  have hown : s.vm.findClass RX3 = some m.cls := hown
  have hl : lv_has ls 5 [(0, .ref (a 3)), (1, .int x1), (2, .int x2), (3, .int x3)] := hl
  have fl_15 := hts (.fieldLink RX3 15 "LockDesk$RowLocks" "sessions" "[I") (by decide +kernel)
  have fl_18 := hts (.fieldLink RX3 18 "LockDesk$RowLocks" "rows" "[I") (by decide +kernel)
  have fl_21 := hts (.fieldLink RX3 21 "LockDesk$RowLocks" "strengths" "[I") (by decide +kernel)
  have fl_24 := hts (.fieldLink RX3 24 "LockDesk$RowLocks" "count" "I") (by decide +kernel)
  have hin3 : ∀ w ∈ wsX30, w ∈ wsX3_suffices := by decide +kernel
  refine lv_iconst (v := 0) hx hb dX3_suffices_0 (by decide) ?_
  refine lv_istore (lv' := [(4, .int 0), (0, .ref (a 3)), (1, .int x1), (2, .int x2), (3, .int x3)]) hx hb dX3_suffices_1 hl (by decide) rfl (fun ls hl => ?_)
  have lp_3 : ∀ (nf : Nat) (i : Nat) (H : Heap) (locs : List Loc) (ls : Array Slot), n - i < nf → (i ≤ n) → (px_any (px_sfP ss rw sg x1 x2 x3) i = false) → va_P G vwCl (wd a cB cI cZ gv rn lv (nI n) lk ss rw sg qc od aw tb md ql dr) H → va_D A (wd a cB cI cZ gv rn lv (nI n) lk ss rw sg qc od aw tb md ql dr) → va_S A s.heap H locs → lv_has ls 5 [(4, .int (nI i)), (0, .ref (a 3)), (1, .int x1), (2, .int x2), (3, .int x3)] → W p l e rmX3_suffices s m args below meth c H locs 0 0 Q (F0 m 3 ls []) := by
    intro nf
    induction nf with
    | zero => intro i H locs ls h0; exact absurd h0 (Nat.not_lt_zero _)
    | succ nf_3 ih_3 =>
      intro i H locs ls hn_3 hi hno hP hD hS hl
      refine lv_iload hx hb dX3_suffices_3 (lv_at hl 0 rfl) ?_
      refine lv_aload_n hx hb dX3_suffices_5 rfl (lv_at hl 1 rfl) ?_
      refine va_get (D := G) (ci := 3) (v := .int (nI n)) (C := RX3) (T := TX3) (N := 5) hx hb hts hin3 hown hK hP 3 rfl rfl 4 (by decide) fl_24 (fun _ h9 => h9) rfl dX3_suffices_6 ?_
      refine lv_icmp_ge (tgt := 53) hx hb dX3_suffices_9 (by decide) (fun c_9 => ?_) (fun c_9 => ?_)
      · have hE : i = n := by
          have := fw_nle c_9 (by omega) (by omega)
          omega
        refine lv_iconst (v := 0) hx hb dX3_suffices_53 (by decide) ?_
        exact hri _ rfl 0 _ _ _ _ _ (by decide) (⟨by rw [← hE, hno]; rfl, rfl⟩) hP hD hS dX3_suffices_54
      · have hL : i < n := by
          have := fw_nlt c_9 (by omega) (by omega)
          omega
        refine lv_aload_n hx hb dX3_suffices_12 rfl (lv_at hl 1 rfl) ?_
        refine va_get (D := G) (ci := 3) (v := .ref (a 9)) (C := RX3) (T := TX3) (N := 5) hx hb hts hin3 hown hK hP 3 rfl rfl 2 (by decide) fl_18 (fun _ h9 => h9) rfl dX3_suffices_13 ?_
        refine lv_iload hx hb dX3_suffices_16 (lv_at hl 0 rfl) ?_
        refine fw_iald (j := i) (f := rw) hx hb hK hP 9 1 rfl rfl (by omega) (by decide) dX3_suffices_18 ?_
        refine lv_iload_n hx hb dX3_suffices_19 rfl (lv_at hl 3 rfl) ?_
        refine lv_icmp_ne (tgt := 47) hx hb dX3_suffices_20 (by decide) (fun c_20 => ?_) (fun c_20 => ?_)
        · refine lv_iinc (v := nI (i + 1)) (lv' := [(4, .int (nI (i + 1))), (0, .ref (a 3)), (1, .int x1), (2, .int x2), (3, .int x3)]) hx hb dX3_suffices_47 hl (k := 0) rfl (fw_inc _) (by decide) rfl (fun ls hl => ?_)
          refine lv_goto (tgt := 3) hx hb dX3_suffices_50 (by decide) ?_
          exact ih_3 (i + 1) _ _ _ (by omega) (by omega) (px_anyS hno (by simp [px_sfP, c_20])) hP hD hS (lv_sub hl [0, 1, 2, 3, 4] rfl)
        · refine lv_aload_n hx hb dX3_suffices_23 rfl (lv_at hl 1 rfl) ?_
          refine va_get (D := G) (ci := 3) (v := .ref (a 8)) (C := RX3) (T := TX3) (N := 5) hx hb hts hin3 hown hK hP 3 rfl rfl 1 (by decide) fl_15 (fun _ h9 => h9) rfl dX3_suffices_24 ?_
          refine lv_iload hx hb dX3_suffices_27 (lv_at hl 0 rfl) ?_
          refine fw_iald (j := i) (f := ss) hx hb hK hP 8 1 rfl rfl (by omega) (by decide) dX3_suffices_29 ?_
          refine lv_iload_n hx hb dX3_suffices_30 rfl (lv_at hl 2 rfl) ?_
          refine lv_icmp_ne (tgt := 47) hx hb dX3_suffices_31 (by decide) (fun c_31 => ?_) (fun c_31 => ?_)
          · refine lv_iinc (v := nI (i + 1)) (lv' := [(4, .int (nI (i + 1))), (0, .ref (a 3)), (1, .int x1), (2, .int x2), (3, .int x3)]) hx hb dX3_suffices_47 hl (k := 0) rfl (fw_inc _) (by decide) rfl (fun ls hl => ?_)
            refine lv_goto (tgt := 3) hx hb dX3_suffices_50 (by decide) ?_
            exact ih_3 (i + 1) _ _ _ (by omega) (by omega) (px_anyS hno (by simp [px_sfP, c_20, c_31])) hP hD hS (lv_sub hl [0, 1, 2, 3, 4] rfl)
          · refine lv_aload_n hx hb dX3_suffices_34 rfl (lv_at hl 1 rfl) ?_
            refine va_get (D := G) (ci := 3) (v := .ref (a 10)) (C := RX3) (T := TX3) (N := 5) hx hb hts hin3 hown hK hP 3 rfl rfl 3 (by decide) fl_21 (fun _ h9 => h9) rfl dX3_suffices_35 ?_
            refine lv_iload hx hb dX3_suffices_38 (lv_at hl 0 rfl) ?_
            refine fw_iald (j := i) (f := sg) hx hb hK hP 10 1 rfl rfl (by omega) (by decide) dX3_suffices_40 ?_
            refine lv_iload_n hx hb dX3_suffices_41 rfl (lv_at hl 4 rfl) ?_
            refine lv_icmp_lt (tgt := 47) hx hb dX3_suffices_42 (by decide) (fun c_42 => ?_) (fun c_42 => ?_)
            · refine lv_iinc (v := nI (i + 1)) (lv' := [(4, .int (nI (i + 1))), (0, .ref (a 3)), (1, .int x1), (2, .int x2), (3, .int x3)]) hx hb dX3_suffices_47 hl (k := 0) rfl (fw_inc _) (by decide) rfl (fun ls hl => ?_)
              refine lv_goto (tgt := 3) hx hb dX3_suffices_50 (by decide) ?_
              exact ih_3 (i + 1) _ _ _ (by omega) (by omega) (px_anyS hno (by simp [px_sfP, c_20, c_31, c_42])) hP hD hS (lv_sub hl [0, 1, 2, 3, 4] rfl)
            · refine lv_iconst (v := 1) hx hb dX3_suffices_45 (by decide) ?_
              exact hri _ rfl 1 _ _ _ _ _ (by decide) (⟨by rw [px_anyT (i := i) (by simp [px_sfP, c_20, c_31, c_42]) hL]; rfl, rfl⟩) hP hD hS dX3_suffices_46
  exact lp_3 _ 0 _ _ _ (Nat.lt_succ_self _) (by omega) (rfl) hP hD hS (lv_sub hl [0, 1, 2, 3, 4] rfl)

abbrev rmX3_leastInConflict : Room := { frames := 0, cells := 0, slots := 0, locals := 0 }
set_option maxHeartbeats 4000000 in
set_option maxRecDepth 100000 in
theorem c_X3_leastInConflict (l : Launch) (G : va_G) (cB cI cZ : ClassId) (tc : Nat) (a : Nat → Nat) (gv qc : Int32) (rn lv lk ss rw sg od aw tb md ql dr : Nat → Int32) (n : Nat) (x1 : Int32) (x2 : Int32) (x3 : Int32) (hn5 : n ≤ 512) : KC l yX3_leastInConflict wsX3_leastInConflict rmX3_leastInConflict G [(cB, .byte), (cI, .int), (cZ, .boolean)] tc [.ref (a 3), .int x1, .int x2, .int x3] (wd a cB cI cZ gv rn lv (nI n) lk ss rw sg qc od aw tb md ql dr) (fun v w' => v = some (.int (px_lc n lk ss rw sg x1 x2 x3)) ∧ w' = (wd a cB cI cZ gv rn lv (nI n) lk ss rw sg qc od aw tb md ql dr)) := by
  refine KC.of (cc := cX3_leastInConflict) (maxL := 6) (ret := some .int) (by decide) rfl (Nat.le_of_ble_eq_true rfl) ?_
  intro p e s m below meth c args A Q ls hx hb hml hown hts hK hZ hA hP hD hS hl hri hrv
  have hown : s.vm.findClass RX3 = some m.cls := hown
  have hl : lv_has ls 6 [(0, .ref (a 3)), (1, .int x1), (2, .int x2), (3, .int x3)] := hl
  have fl_9 := hts (.fieldLink RX3 9 "LockDesk$RowLocks" "lockers" "[I") (by decide +kernel)
  have fl_15 := hts (.fieldLink RX3 15 "LockDesk$RowLocks" "sessions" "[I") (by decide +kernel)
  have fl_18 := hts (.fieldLink RX3 18 "LockDesk$RowLocks" "rows" "[I") (by decide +kernel)
  have fl_21 := hts (.fieldLink RX3 21 "LockDesk$RowLocks" "strengths" "[I") (by decide +kernel)
  have fl_24 := hts (.fieldLink RX3 24 "LockDesk$RowLocks" "count" "I") (by decide +kernel)
  have hin3 : ∀ w ∈ wsX30, w ∈ wsX3_leastInConflict := by decide +kernel
  refine lv_iconst (v := 0) hx hb dX3_leastInConflict_0 (by decide) ?_
  refine lv_istore (lv' := [(4, .int 0), (0, .ref (a 3)), (1, .int x1), (2, .int x2), (3, .int x3)]) hx hb dX3_leastInConflict_1 hl (by decide) rfl (fun ls hl => ?_)
  have lp_3 : ∀ (nf : Nat) (i : Nat) (H : Heap) (locs : List Loc) (ls : Array Slot), n - i < nf → (i ≤ n) → (px_fst (px_lcP ss rw sg x1 x2 x3) i = none) → va_P G vwCl (wd a cB cI cZ gv rn lv (nI n) lk ss rw sg qc od aw tb md ql dr) H → va_D A (wd a cB cI cZ gv rn lv (nI n) lk ss rw sg qc od aw tb md ql dr) → va_S A s.heap H locs → lv_has ls 6 [(4, .int (nI i)), (0, .ref (a 3)), (1, .int x1), (2, .int x2), (3, .int x3)] → W p l e rmX3_leastInConflict s m args below meth c H locs 0 0 Q (F0 m 3 ls []) := by
    intro nf
    induction nf with
    | zero => intro i H locs ls h0; exact absurd h0 (Nat.not_lt_zero _)
    | succ nf_3 ih_3 =>
      intro i H locs ls hn_3 hi hno hP hD hS hl
      refine lv_iload hx hb dX3_leastInConflict_3 (lv_at hl 0 rfl) ?_
      refine lv_aload_n hx hb dX3_leastInConflict_5 rfl (lv_at hl 1 rfl) ?_
      refine va_get (D := G) (ci := 3) (v := .int (nI n)) (C := RX3) (T := TX3) (N := 5) hx hb hts hin3 hown hK hP 3 rfl rfl 4 (by decide) fl_24 (fun _ h9 => h9) rfl dX3_leastInConflict_6 ?_
      refine lv_icmp_ge (tgt := 76) hx hb dX3_leastInConflict_9 (by decide) (fun c_9 => ?_) (fun c_9 => ?_)
      · have hE : i = n := by
          have := fw_nle c_9 (by omega) (by omega)
          omega
        refine lv_iconst (v := (-1)) hx hb dX3_leastInConflict_76 (by decide) ?_
        exact hri _ rfl (-1) _ _ _ _ _ (rfl) (⟨by rw [px_lc, ← hE, hno], rfl⟩) hP hD hS dX3_leastInConflict_77
      · have hL : i < n := by
          have := fw_nlt c_9 (by omega) (by omega)
          omega
        refine lv_iload_n hx hb dX3_leastInConflict_12 rfl (lv_at hl 4 rfl) ?_
        refine lv_iconst (v := 2) hx hb dX3_leastInConflict_13 (by decide) ?_
        refine lv_icmp_eq (tgt := 28) hx hb dX3_leastInConflict_14 (by decide) (fun c_14 => ?_) (fun c_14 => ?_)
        · refine lv_iconst (v := 1) hx hb dX3_leastInConflict_28 (by decide) ?_
          refine lv_goto (tgt := 33) hx hb dX3_leastInConflict_29 (by decide) ?_
          refine lv_istore (lv' := [(5, .int 1), (4, .int (nI i)), (0, .ref (a 3)), (1, .int x1), (2, .int x2), (3, .int x3)]) hx hb dX3_leastInConflict_33 hl (by decide) rfl (fun ls hl => ?_)
          refine lv_aload_n hx hb dX3_leastInConflict_35 rfl (lv_at hl 2 rfl) ?_
          refine va_get (D := G) (ci := 3) (v := .ref (a 9)) (C := RX3) (T := TX3) (N := 5) hx hb hts hin3 hown hK hP 3 rfl rfl 2 (by decide) fl_18 (fun _ h9 => h9) rfl dX3_leastInConflict_36 ?_
          refine lv_iload hx hb dX3_leastInConflict_39 (lv_at hl 1 rfl) ?_
          refine fw_iald (j := i) (f := rw) hx hb hK hP 9 1 rfl rfl (by omega) (by decide) dX3_leastInConflict_41 ?_
          refine lv_iload_n hx hb dX3_leastInConflict_42 rfl (lv_at hl 4 rfl) ?_
          refine lv_icmp_ne (tgt := 70) hx hb dX3_leastInConflict_43 (by decide) (fun c_43 => ?_) (fun c_43 => ?_)
          · refine lv_iinc (v := nI (i + 1)) (lv' := [(4, .int (nI (i + 1))), (5, .int 1), (0, .ref (a 3)), (1, .int x1), (2, .int x2), (3, .int x3)]) hx hb dX3_leastInConflict_70 hl (k := 1) rfl (fw_inc _) (by decide) rfl (fun ls hl => ?_)
            refine lv_goto (tgt := 3) hx hb dX3_leastInConflict_73 (by decide) ?_
            exact ih_3 (i + 1) _ _ _ (by omega) (by omega) (px_fstS hno (by simp [px_lcP, c_14, c_43])) hP hD hS (lv_sub hl [0, 2, 3, 4, 5] rfl)
          · refine lv_aload_n hx hb dX3_leastInConflict_46 rfl (lv_at hl 2 rfl) ?_
            refine va_get (D := G) (ci := 3) (v := .ref (a 8)) (C := RX3) (T := TX3) (N := 5) hx hb hts hin3 hown hK hP 3 rfl rfl 1 (by decide) fl_15 (fun _ h9 => h9) rfl dX3_leastInConflict_47 ?_
            refine lv_iload hx hb dX3_leastInConflict_50 (lv_at hl 1 rfl) ?_
            refine fw_iald (j := i) (f := ss) hx hb hK hP 8 1 rfl rfl (by omega) (by decide) dX3_leastInConflict_52 ?_
            refine lv_iload_n hx hb dX3_leastInConflict_53 rfl (lv_at hl 3 rfl) ?_
            refine lv_icmp_eq (tgt := 70) hx hb dX3_leastInConflict_54 (by decide) (fun c_54 => ?_) (fun c_54 => ?_)
            · refine lv_iinc (v := nI (i + 1)) (lv' := [(4, .int (nI (i + 1))), (5, .int 1), (0, .ref (a 3)), (1, .int x1), (2, .int x2), (3, .int x3)]) hx hb dX3_leastInConflict_70 hl (k := 1) rfl (fw_inc _) (by decide) rfl (fun ls hl => ?_)
              refine lv_goto (tgt := 3) hx hb dX3_leastInConflict_73 (by decide) ?_
              exact ih_3 (i + 1) _ _ _ (by omega) (by omega) (px_fstS hno (by simp [px_lcP, c_14, c_43, c_54])) hP hD hS (lv_sub hl [0, 2, 3, 4, 5] rfl)
            · refine lv_iload hx hb dX3_leastInConflict_57 (lv_at hl 0 rfl) ?_
              refine lv_if_eq (tgt := 70) hx hb dX3_leastInConflict_59 (by decide) (fun c_59 => False.elim (absurd c_59 (by decide))) (fun c_59 => ?_)
              refine lv_aload_n hx hb dX3_leastInConflict_62 rfl (lv_at hl 2 rfl) ?_
              refine va_get (D := G) (ci := 3) (v := .ref (a 7)) (C := RX3) (T := TX3) (N := 5) hx hb hts hin3 hown hK hP 3 rfl rfl 0 (by decide) fl_9 (fun _ h9 => h9) rfl dX3_leastInConflict_63 ?_
              refine lv_iload hx hb dX3_leastInConflict_66 (lv_at hl 1 rfl) ?_
              refine fw_iald (j := i) (f := lk) hx hb hK hP 7 1 rfl rfl (by omega) (by decide) dX3_leastInConflict_68 ?_
              exact hri _ rfl (lk i) _ _ _ _ _ (rfl) (⟨by rw [px_lc, px_fstT hno (by simp [px_lcP, c_14, c_43, c_54]) hL], rfl⟩) hP hD hS dX3_leastInConflict_69
        · refine lv_aload_n hx hb dX3_leastInConflict_17 rfl (lv_at hl 1 rfl) ?_
          refine va_get (D := G) (ci := 3) (v := .ref (a 10)) (C := RX3) (T := TX3) (N := 5) hx hb hts hin3 hown hK hP 3 rfl rfl 3 (by decide) fl_21 (fun _ h9 => h9) rfl dX3_leastInConflict_18 ?_
          refine lv_iload hx hb dX3_leastInConflict_21 (lv_at hl 0 rfl) ?_
          refine fw_iald (j := i) (f := sg) hx hb hK hP 10 1 rfl rfl (by omega) (by decide) dX3_leastInConflict_23 ?_
          refine lv_iconst (v := 2) hx hb dX3_leastInConflict_24 (by decide) ?_
          refine lv_icmp_ne (tgt := 32) hx hb dX3_leastInConflict_25 (by decide) (fun c_25 => ?_) (fun c_25 => ?_)
          · refine lv_iconst (v := 0) hx hb dX3_leastInConflict_32 (by decide) ?_
            refine lv_istore (lv' := [(5, .int 0), (4, .int (nI i)), (0, .ref (a 3)), (1, .int x1), (2, .int x2), (3, .int x3)]) hx hb dX3_leastInConflict_33 hl (by decide) rfl (fun ls hl => ?_)
            refine lv_aload_n hx hb dX3_leastInConflict_35 rfl (lv_at hl 2 rfl) ?_
            refine va_get (D := G) (ci := 3) (v := .ref (a 9)) (C := RX3) (T := TX3) (N := 5) hx hb hts hin3 hown hK hP 3 rfl rfl 2 (by decide) fl_18 (fun _ h9 => h9) rfl dX3_leastInConflict_36 ?_
            refine lv_iload hx hb dX3_leastInConflict_39 (lv_at hl 1 rfl) ?_
            refine fw_iald (j := i) (f := rw) hx hb hK hP 9 1 rfl rfl (by omega) (by decide) dX3_leastInConflict_41 ?_
            refine lv_iload_n hx hb dX3_leastInConflict_42 rfl (lv_at hl 4 rfl) ?_
            refine lv_icmp_ne (tgt := 70) hx hb dX3_leastInConflict_43 (by decide) (fun c_43 => ?_) (fun c_43 => ?_)
            · refine lv_iinc (v := nI (i + 1)) (lv' := [(4, .int (nI (i + 1))), (5, .int 0), (0, .ref (a 3)), (1, .int x1), (2, .int x2), (3, .int x3)]) hx hb dX3_leastInConflict_70 hl (k := 1) rfl (fw_inc _) (by decide) rfl (fun ls hl => ?_)
              refine lv_goto (tgt := 3) hx hb dX3_leastInConflict_73 (by decide) ?_
              exact ih_3 (i + 1) _ _ _ (by omega) (by omega) (px_fstS hno (by simp [px_lcP, c_14, c_25, c_43])) hP hD hS (lv_sub hl [0, 2, 3, 4, 5] rfl)
            · refine lv_aload_n hx hb dX3_leastInConflict_46 rfl (lv_at hl 2 rfl) ?_
              refine va_get (D := G) (ci := 3) (v := .ref (a 8)) (C := RX3) (T := TX3) (N := 5) hx hb hts hin3 hown hK hP 3 rfl rfl 1 (by decide) fl_15 (fun _ h9 => h9) rfl dX3_leastInConflict_47 ?_
              refine lv_iload hx hb dX3_leastInConflict_50 (lv_at hl 1 rfl) ?_
              refine fw_iald (j := i) (f := ss) hx hb hK hP 8 1 rfl rfl (by omega) (by decide) dX3_leastInConflict_52 ?_
              refine lv_iload_n hx hb dX3_leastInConflict_53 rfl (lv_at hl 3 rfl) ?_
              refine lv_icmp_eq (tgt := 70) hx hb dX3_leastInConflict_54 (by decide) (fun c_54 => ?_) (fun c_54 => ?_)
              · refine lv_iinc (v := nI (i + 1)) (lv' := [(4, .int (nI (i + 1))), (5, .int 0), (0, .ref (a 3)), (1, .int x1), (2, .int x2), (3, .int x3)]) hx hb dX3_leastInConflict_70 hl (k := 1) rfl (fw_inc _) (by decide) rfl (fun ls hl => ?_)
                refine lv_goto (tgt := 3) hx hb dX3_leastInConflict_73 (by decide) ?_
                exact ih_3 (i + 1) _ _ _ (by omega) (by omega) (px_fstS hno (by simp [px_lcP, c_14, c_25, c_43, c_54])) hP hD hS (lv_sub hl [0, 2, 3, 4, 5] rfl)
              · refine lv_iload hx hb dX3_leastInConflict_57 (lv_at hl 0 rfl) ?_
                refine lv_if_eq (tgt := 70) hx hb dX3_leastInConflict_59 (by decide) (fun c_59 => ?_) (fun c_59 => absurd (rfl) c_59)
                refine lv_iinc (v := nI (i + 1)) (lv' := [(4, .int (nI (i + 1))), (5, .int 0), (0, .ref (a 3)), (1, .int x1), (2, .int x2), (3, .int x3)]) hx hb dX3_leastInConflict_70 hl (k := 1) rfl (fw_inc _) (by decide) rfl (fun ls hl => ?_)
                refine lv_goto (tgt := 3) hx hb dX3_leastInConflict_73 (by decide) ?_
                exact ih_3 (i + 1) _ _ _ (by omega) (by omega) (px_fstS hno (by simp [px_lcP, c_14, c_25, c_43, c_54])) hP hD hS (lv_sub hl [0, 2, 3, 4, 5] rfl)
          · refine lv_iconst (v := 1) hx hb dX3_leastInConflict_28 (by decide) ?_
            refine lv_goto (tgt := 33) hx hb dX3_leastInConflict_29 (by decide) ?_
            refine lv_istore (lv' := [(5, .int 1), (4, .int (nI i)), (0, .ref (a 3)), (1, .int x1), (2, .int x2), (3, .int x3)]) hx hb dX3_leastInConflict_33 hl (by decide) rfl (fun ls hl => ?_)
            refine lv_aload_n hx hb dX3_leastInConflict_35 rfl (lv_at hl 2 rfl) ?_
            refine va_get (D := G) (ci := 3) (v := .ref (a 9)) (C := RX3) (T := TX3) (N := 5) hx hb hts hin3 hown hK hP 3 rfl rfl 2 (by decide) fl_18 (fun _ h9 => h9) rfl dX3_leastInConflict_36 ?_
            refine lv_iload hx hb dX3_leastInConflict_39 (lv_at hl 1 rfl) ?_
            refine fw_iald (j := i) (f := rw) hx hb hK hP 9 1 rfl rfl (by omega) (by decide) dX3_leastInConflict_41 ?_
            refine lv_iload_n hx hb dX3_leastInConflict_42 rfl (lv_at hl 4 rfl) ?_
            refine lv_icmp_ne (tgt := 70) hx hb dX3_leastInConflict_43 (by decide) (fun c_43 => ?_) (fun c_43 => ?_)
            · refine lv_iinc (v := nI (i + 1)) (lv' := [(4, .int (nI (i + 1))), (5, .int 1), (0, .ref (a 3)), (1, .int x1), (2, .int x2), (3, .int x3)]) hx hb dX3_leastInConflict_70 hl (k := 1) rfl (fw_inc _) (by decide) rfl (fun ls hl => ?_)
              refine lv_goto (tgt := 3) hx hb dX3_leastInConflict_73 (by decide) ?_
              exact ih_3 (i + 1) _ _ _ (by omega) (by omega) (px_fstS hno (by simp [px_lcP, c_14, c_25, c_43])) hP hD hS (lv_sub hl [0, 2, 3, 4, 5] rfl)
            · refine lv_aload_n hx hb dX3_leastInConflict_46 rfl (lv_at hl 2 rfl) ?_
              refine va_get (D := G) (ci := 3) (v := .ref (a 8)) (C := RX3) (T := TX3) (N := 5) hx hb hts hin3 hown hK hP 3 rfl rfl 1 (by decide) fl_15 (fun _ h9 => h9) rfl dX3_leastInConflict_47 ?_
              refine lv_iload hx hb dX3_leastInConflict_50 (lv_at hl 1 rfl) ?_
              refine fw_iald (j := i) (f := ss) hx hb hK hP 8 1 rfl rfl (by omega) (by decide) dX3_leastInConflict_52 ?_
              refine lv_iload_n hx hb dX3_leastInConflict_53 rfl (lv_at hl 3 rfl) ?_
              refine lv_icmp_eq (tgt := 70) hx hb dX3_leastInConflict_54 (by decide) (fun c_54 => ?_) (fun c_54 => ?_)
              · refine lv_iinc (v := nI (i + 1)) (lv' := [(4, .int (nI (i + 1))), (5, .int 1), (0, .ref (a 3)), (1, .int x1), (2, .int x2), (3, .int x3)]) hx hb dX3_leastInConflict_70 hl (k := 1) rfl (fw_inc _) (by decide) rfl (fun ls hl => ?_)
                refine lv_goto (tgt := 3) hx hb dX3_leastInConflict_73 (by decide) ?_
                exact ih_3 (i + 1) _ _ _ (by omega) (by omega) (px_fstS hno (by simp [px_lcP, c_14, c_25, c_43, c_54])) hP hD hS (lv_sub hl [0, 2, 3, 4, 5] rfl)
              · refine lv_iload hx hb dX3_leastInConflict_57 (lv_at hl 0 rfl) ?_
                refine lv_if_eq (tgt := 70) hx hb dX3_leastInConflict_59 (by decide) (fun c_59 => False.elim (absurd c_59 (by decide))) (fun c_59 => ?_)
                refine lv_aload_n hx hb dX3_leastInConflict_62 rfl (lv_at hl 2 rfl) ?_
                refine va_get (D := G) (ci := 3) (v := .ref (a 7)) (C := RX3) (T := TX3) (N := 5) hx hb hts hin3 hown hK hP 3 rfl rfl 0 (by decide) fl_9 (fun _ h9 => h9) rfl dX3_leastInConflict_63 ?_
                refine lv_iload hx hb dX3_leastInConflict_66 (lv_at hl 1 rfl) ?_
                refine fw_iald (j := i) (f := lk) hx hb hK hP 7 1 rfl rfl (by omega) (by decide) dX3_leastInConflict_68 ?_
                exact hri _ rfl (lk i) _ _ _ _ _ (rfl) (⟨by rw [px_lc, px_fstT hno (by simp [px_lcP, c_14, c_25, c_43, c_54]) hL], rfl⟩) hP hD hS dX3_leastInConflict_69
  exact lp_3 _ 0 _ _ _ (Nat.lt_succ_self _) (by omega) (rfl) hP hD hS (lv_sub hl [0, 1, 2, 3, 4] rfl)

abbrev rmX3_copy : Room := { frames := 0, cells := 0, slots := 0, locals := 0 }
set_option maxHeartbeats 4000000 in
set_option maxRecDepth 100000 in
theorem c_X3_copy (l : Launch) (G : va_G) (cB cI cZ : ClassId) (tc : Nat) (a : Nat → Nat) (gv rc qc : Int32) (rn lv lk ss rw sg od aw tb md ql dr : Nat → Int32) (i : Nat) (j : Nat) (hi5 : i < 512) (hj5 : j < 512) : KC l yX3_copy wsX3_copy rmX3_copy G [(cB, .byte), (cI, .int), (cZ, .boolean)] tc [.ref (a 3), .int (nI i), .int (nI j)] (wd a cB cI cZ gv rn lv rc lk ss rw sg qc od aw tb md ql dr) (fun v w' => v = none ∧ w' = (wd a cB cI cZ gv rn lv rc (upd lk j (lk i)) (upd ss j (ss i)) (upd rw j (rw i)) (upd sg j (sg i)) qc od aw tb md ql dr)) := by
  refine KC.of (cc := cX3_copy) (maxL := 3) (ret := none) (by decide) rfl (Nat.le_of_ble_eq_true rfl) ?_
  intro p e s m below meth c args A Q ls hx hb hml hown hts hK hZ hA hP hD hS hl hri hrv
  have hown : s.vm.findClass RX3 = some m.cls := hown
  have hl : lv_has ls 3 [(0, .ref (a 3)), (1, .int (nI i)), (2, .int (nI j))] := hl
  have fl_9 := hts (.fieldLink RX3 9 "LockDesk$RowLocks" "lockers" "[I") (by decide +kernel)
  have fl_15 := hts (.fieldLink RX3 15 "LockDesk$RowLocks" "sessions" "[I") (by decide +kernel)
  have fl_18 := hts (.fieldLink RX3 18 "LockDesk$RowLocks" "rows" "[I") (by decide +kernel)
  have fl_21 := hts (.fieldLink RX3 21 "LockDesk$RowLocks" "strengths" "[I") (by decide +kernel)
  have hin3 : ∀ w ∈ wsX30, w ∈ wsX3_copy := by decide +kernel
  refine lv_aload_n hx hb dX3_copy_0 rfl (lv_at hl 0 rfl) ?_
  refine va_get (D := G) (ci := 3) (v := .ref (a 7)) (C := RX3) (T := TX3) (N := 5) hx hb hts hin3 hown hK hP 3 rfl rfl 0 (by decide) fl_9 (fun _ h9 => h9) rfl dX3_copy_1 ?_
  refine lv_iload_n hx hb dX3_copy_4 rfl (lv_at hl 2 rfl) ?_
  refine lv_aload_n hx hb dX3_copy_5 rfl (lv_at hl 0 rfl) ?_
  refine va_get (D := G) (ci := 3) (v := .ref (a 7)) (C := RX3) (T := TX3) (N := 5) hx hb hts hin3 hown hK hP 3 rfl rfl 0 (by decide) fl_9 (fun _ h9 => h9) rfl dX3_copy_6 ?_
  refine lv_iload_n hx hb dX3_copy_9 rfl (lv_at hl 1 rfl) ?_
  refine fw_iald (j := i) (f := lk) hx hb hK hP 7 1 rfl rfl (by omega) (by decide) dX3_copy_10 ?_
  refine fw_iast (j := j) (f := lk) (x := lk i) hx hb hK hP hD hS 7 1 rfl rfl (by omega) (by decide) dX3_copy_11 (fun H locs hP hD hS => ?_)
  have hP : va_P G vwCl (wd a cB cI cZ gv rn lv rc (upd lk j (lk i)) ss rw sg qc od aw tb md ql dr) H := hP
  have hD : va_D A (wd a cB cI cZ gv rn lv rc (upd lk j (lk i)) ss rw sg qc od aw tb md ql dr) := hD
  refine lv_aload_n hx hb dX3_copy_12 rfl (lv_at hl 0 rfl) ?_
  refine va_get (D := G) (ci := 3) (v := .ref (a 8)) (C := RX3) (T := TX3) (N := 5) hx hb hts hin3 hown hK hP 3 rfl rfl 1 (by decide) fl_15 (fun _ h9 => h9) rfl dX3_copy_13 ?_
  refine lv_iload_n hx hb dX3_copy_16 rfl (lv_at hl 2 rfl) ?_
  refine lv_aload_n hx hb dX3_copy_17 rfl (lv_at hl 0 rfl) ?_
  refine va_get (D := G) (ci := 3) (v := .ref (a 8)) (C := RX3) (T := TX3) (N := 5) hx hb hts hin3 hown hK hP 3 rfl rfl 1 (by decide) fl_15 (fun _ h9 => h9) rfl dX3_copy_18 ?_
  refine lv_iload_n hx hb dX3_copy_21 rfl (lv_at hl 1 rfl) ?_
  refine fw_iald (j := i) (f := ss) hx hb hK hP 8 1 rfl rfl (by omega) (by decide) dX3_copy_22 ?_
  refine fw_iast (j := j) (f := ss) (x := ss i) hx hb hK hP hD hS 8 1 rfl rfl (by omega) (by decide) dX3_copy_23 (fun H locs hP hD hS => ?_)
  have hP : va_P G vwCl (wd a cB cI cZ gv rn lv rc (upd lk j (lk i)) (upd ss j (ss i)) rw sg qc od aw tb md ql dr) H := hP
  have hD : va_D A (wd a cB cI cZ gv rn lv rc (upd lk j (lk i)) (upd ss j (ss i)) rw sg qc od aw tb md ql dr) := hD
  refine lv_aload_n hx hb dX3_copy_24 rfl (lv_at hl 0 rfl) ?_
  refine va_get (D := G) (ci := 3) (v := .ref (a 9)) (C := RX3) (T := TX3) (N := 5) hx hb hts hin3 hown hK hP 3 rfl rfl 2 (by decide) fl_18 (fun _ h9 => h9) rfl dX3_copy_25 ?_
  refine lv_iload_n hx hb dX3_copy_28 rfl (lv_at hl 2 rfl) ?_
  refine lv_aload_n hx hb dX3_copy_29 rfl (lv_at hl 0 rfl) ?_
  refine va_get (D := G) (ci := 3) (v := .ref (a 9)) (C := RX3) (T := TX3) (N := 5) hx hb hts hin3 hown hK hP 3 rfl rfl 2 (by decide) fl_18 (fun _ h9 => h9) rfl dX3_copy_30 ?_
  refine lv_iload_n hx hb dX3_copy_33 rfl (lv_at hl 1 rfl) ?_
  refine fw_iald (j := i) (f := rw) hx hb hK hP 9 1 rfl rfl (by omega) (by decide) dX3_copy_34 ?_
  refine fw_iast (j := j) (f := rw) (x := rw i) hx hb hK hP hD hS 9 1 rfl rfl (by omega) (by decide) dX3_copy_35 (fun H locs hP hD hS => ?_)
  have hP : va_P G vwCl (wd a cB cI cZ gv rn lv rc (upd lk j (lk i)) (upd ss j (ss i)) (upd rw j (rw i)) sg qc od aw tb md ql dr) H := hP
  have hD : va_D A (wd a cB cI cZ gv rn lv rc (upd lk j (lk i)) (upd ss j (ss i)) (upd rw j (rw i)) sg qc od aw tb md ql dr) := hD
  refine lv_aload_n hx hb dX3_copy_36 rfl (lv_at hl 0 rfl) ?_
  refine va_get (D := G) (ci := 3) (v := .ref (a 10)) (C := RX3) (T := TX3) (N := 5) hx hb hts hin3 hown hK hP 3 rfl rfl 3 (by decide) fl_21 (fun _ h9 => h9) rfl dX3_copy_37 ?_
  refine lv_iload_n hx hb dX3_copy_40 rfl (lv_at hl 2 rfl) ?_
  refine lv_aload_n hx hb dX3_copy_41 rfl (lv_at hl 0 rfl) ?_
  refine va_get (D := G) (ci := 3) (v := .ref (a 10)) (C := RX3) (T := TX3) (N := 5) hx hb hts hin3 hown hK hP 3 rfl rfl 3 (by decide) fl_21 (fun _ h9 => h9) rfl dX3_copy_42 ?_
  refine lv_iload_n hx hb dX3_copy_45 rfl (lv_at hl 1 rfl) ?_
  refine fw_iald (j := i) (f := sg) hx hb hK hP 10 1 rfl rfl (by omega) (by decide) dX3_copy_46 ?_
  refine fw_iast (j := j) (f := sg) (x := sg i) hx hb hK hP hD hS 10 1 rfl rfl (by omega) (by decide) dX3_copy_47 (fun H locs hP hD hS => ?_)
  have hP : va_P G vwCl (wd a cB cI cZ gv rn lv rc (upd lk j (lk i)) (upd ss j (ss i)) (upd rw j (rw i)) (upd sg j (sg i)) qc od aw tb md ql dr) H := hP
  have hD : va_D A (wd a cB cI cZ gv rn lv rc (upd lk j (lk i)) (upd ss j (ss i)) (upd rw j (rw i)) (upd sg j (sg i)) qc od aw tb md ql dr) := hD
  exact hrv rfl _ _ _ _ _ (⟨rfl, rfl⟩) hP hD hS dX3_copy_48

abbrev rmX3_forgetWhere : Room := { frames := 1, cells := 0, slots := 0, locals := 22 }
set_option maxHeartbeats 4000000 in
set_option maxRecDepth 100000 in
theorem c_X3_forgetWhere_n (l : Launch) (G : va_G) (cB cI cZ : ClassId) (tc : Nat) (a : Nat → Nat) (gv qc : Int32) (rn lv lk ss rw sg od aw tb md ql dr : Nat → Int32) (n : Nat) (x1 : Int32) (hn5 : n ≤ 512) : KC l yX3_forgetWhere wsX3_forgetWhere rmX3_forgetWhere G [(cB, .byte), (cI, .int), (cZ, .boolean)] tc [.ref (a 3), .ref (a 7), .int x1] (wd a cB cI cZ gv rn lv (nI n) lk ss rw sg qc od aw tb md ql dr) (fun v w' => v = none ∧ w' = (wd a cB cI cZ gv rn lv (nI (px_fw (fun q => q.1) x1 n (lk, ss, rw, sg)).1) ((px_fw (fun q => q.1) x1 n (lk, ss, rw, sg)).2.1) ((px_fw (fun q => q.1) x1 n (lk, ss, rw, sg)).2.2.1) ((px_fw (fun q => q.1) x1 n (lk, ss, rw, sg)).2.2.2.1) ((px_fw (fun q => q.1) x1 n (lk, ss, rw, sg)).2.2.2.2) qc od aw tb md ql dr)) := by
  refine KC.of (cc := cX3_forgetWhere) (maxL := 5) (ret := none) (by decide) rfl (Nat.le_of_ble_eq_true rfl) ?_
  intro p e s m below meth c args A Q ls hx hb hml hown hts hK hZ hA hP hD hS hl hri hrv
  have hown : s.vm.findClass RX3 = some m.cls := hown
  have hl : lv_has ls 5 [(0, .ref (a 3)), (1, .ref (a 7)), (2, .int x1)] := hl
  have fl_24 := hts (.fieldLink RX3 24 "LockDesk$RowLocks" "count" "I") (by decide +kernel)
  have hin3 : ∀ w ∈ wsX30, w ∈ wsX3_forgetWhere := by decide +kernel
  refine lv_iconst (v := 0) hx hb dX3_forgetWhere_0 (by decide) ?_
  refine lv_istore_n (lv' := [(3, .int 0), (0, .ref (a 3)), (1, .ref (a 7)), (2, .int x1)]) hx hb dX3_forgetWhere_1 rfl hl (by decide) rfl (fun ls hl => ?_)
  refine lv_iconst (v := 0) hx hb dX3_forgetWhere_2 (by decide) ?_
  refine lv_istore (lv' := [(4, .int 0), (3, .int 0), (0, .ref (a 3)), (1, .ref (a 7)), (2, .int x1)]) hx hb dX3_forgetWhere_3 hl (by decide) rfl (fun ls hl => ?_)
  have lp_5 : ∀ (nf : Nat) (i kp : Nat) (lk1 ss1 rw1 sg1 : Nat → Int32) (H : Heap) (locs : List Loc) (ls : Array Slot), n - i < nf → (i ≤ n) → (kp ≤ i) → ((kp, lk1, ss1, rw1, sg1) = fw_it (px_fwS (fun q => q.1) x1) i (0, lk, ss, rw, sg)) → va_P G vwCl (wd a cB cI cZ gv rn lv (nI n) lk1 ss1 rw1 sg1 qc od aw tb md ql dr) H → va_D A (wd a cB cI cZ gv rn lv (nI n) lk1 ss1 rw1 sg1 qc od aw tb md ql dr) → va_S A s.heap H locs → lv_has ls 5 [(4, .int (nI i)), (3, .int (nI kp)), (0, .ref (a 3)), (1, .ref (a 7)), (2, .int x1)] → W p l e rmX3_forgetWhere s m args below meth c H locs 0 0 Q (F0 m 5 ls []) := by
    intro nf
    induction nf with
    | zero => intro i kp lk1 ss1 rw1 sg1 H locs ls h0; exact absurd h0 (Nat.not_lt_zero _)
    | succ nf_5 ih_5 =>
      intro i kp lk1 ss1 rw1 sg1 H locs ls hn_5 hi hk hf hP hD hS hl
      refine lv_iload hx hb dX3_forgetWhere_5 (lv_at hl 0 rfl) ?_
      refine lv_aload_n hx hb dX3_forgetWhere_7 rfl (lv_at hl 2 rfl) ?_
      refine va_get (D := G) (ci := 3) (v := .int (nI n)) (C := RX3) (T := TX3) (N := 5) hx hb hts hin3 hown hK hP 3 rfl rfl 4 (by decide) fl_24 (fun _ h9 => h9) rfl dX3_forgetWhere_8 ?_
      refine lv_icmp_ge (tgt := 38) hx hb dX3_forgetWhere_11 (by decide) (fun c_11 => ?_) (fun c_11 => ?_)
      · have hE : i = n := by
          have := fw_nle c_11 (by omega) (by omega)
          omega
        refine lv_aload_n hx hb dX3_forgetWhere_38 rfl (lv_at hl 2 rfl) ?_
        refine lv_iload_n hx hb dX3_forgetWhere_39 rfl (lv_at hl 1 rfl) ?_
        refine va_put (D := G) (ci := 3) (v := .int (nI kp)) (ty := .int) (C := RX3) (T := TX3) (N := 5) hx hb hts hin3 tyX3 tyX3_ok nmX3 hown hK hP hD hS 3 rfl rfl 4 (by decide) fl_24 (fun _ h9 => h9) rfl (by decide +kernel) rfl rfl (Nat.le_of_ble_eq_true rfl) dX3_forgetWhere_40 (fun H locs hP hD hS => ?_)
        have hP : va_P G vwCl (wd a cB cI cZ gv rn lv (nI kp) lk1 ss1 rw1 sg1 qc od aw tb md ql dr) H := hP
        have hD : va_D A (wd a cB cI cZ gv rn lv (nI kp) lk1 ss1 rw1 sg1 qc od aw tb md ql dr) := hD
        exact hrv rfl _ _ _ _ _ (⟨rfl, by rw [px_fw, ← hE, ← hf]⟩) hP hD hS dX3_forgetWhere_43
      · have hL : i < n := by
          have := fw_nlt c_11 (by omega) (by omega)
          omega
        refine lv_aload_n hx hb dX3_forgetWhere_14 rfl (lv_at hl 3 rfl) ?_
        refine lv_iload hx hb dX3_forgetWhere_15 (lv_at hl 0 rfl) ?_
        refine fw_iald (j := i) (f := lk1) hx hb hK hP 7 1 rfl rfl (by omega) (by decide) dX3_forgetWhere_17 ?_
        refine lv_iload_n hx hb dX3_forgetWhere_18 rfl (lv_at hl 4 rfl) ?_
        refine lv_icmp_eq (tgt := 32) hx hb dX3_forgetWhere_19 (by decide) (fun c_19 => ?_) (fun c_19 => ?_)
        · refine lv_iinc (v := nI (i + 1)) (lv' := [(4, .int (nI (i + 1))), (3, .int (nI kp)), (0, .ref (a 3)), (1, .ref (a 7)), (2, .int x1)]) hx hb dX3_forgetWhere_32 hl (k := 0) rfl (fw_inc _) (by decide) rfl (fun ls hl => ?_)
          refine lv_goto (tgt := 5) hx hb dX3_forgetWhere_35 (by decide) ?_
          exact ih_5 (i + 1) kp lk1 ss1 rw1 sg1 _ _ _ (by omega) (by omega) (by omega) (by rw [fw_itS, ← hf]; simp [px_fwS, px_cp, c_19]) hP hD hS (lv_sub hl [0, 1, 2, 3, 4] rfl)
        · refine lv_aload_n hx hb dX3_forgetWhere_22 rfl (lv_at hl 2 rfl) ?_
          refine lv_iload hx hb dX3_forgetWhere_23 (lv_at hl 0 rfl) ?_
          refine lv_iload_n hx hb dX3_forgetWhere_25 rfl (lv_at hl 1 rfl) ?_
          refine kV (As := [.int (nI i), .int (nI kp)]) (rest := []) ⟨hx, hb, hml, hown, hts⟩ (c_X3_copy l G cB cI cZ tc a gv (nI n) qc rn lv lk1 ss1 rw1 sg1 od aw tb md ql dr i kp (by omega) (by omega)) (cwV 2 hts gX3_forgetWhere_X3_copy rfl rfl rfl (by decide +kernel) ⟨by decide, by decide⟩) hK hZ hA hP hD hS 3 3 rfl rfl rfl hl.1 rfl (Nat.le_of_ble_eq_true rfl) dX3_forgetWhere_26 ⟨Nat.zero_le _, Nat.zero_le _⟩ (fun v w' H locs hp hP hD hS => ?_)
          obtain ⟨rfl, rfl⟩ := hp
          have hP : va_P G vwCl (wd a cB cI cZ gv rn lv (nI n) (upd lk1 kp (lk1 i)) (upd ss1 kp (ss1 i)) (upd rw1 kp (rw1 i)) (upd sg1 kp (sg1 i)) qc od aw tb md ql dr) H := hP
          have hD : va_D A (wd a cB cI cZ gv rn lv (nI n) (upd lk1 kp (lk1 i)) (upd ss1 kp (ss1 i)) (upd rw1 kp (rw1 i)) (upd sg1 kp (sg1 i)) qc od aw tb md ql dr) := hD
          refine W.eq (g2 := F0 m 29 ls []) rfl ?_
          refine lv_iinc (v := nI (kp + 1)) (lv' := [(3, .int (nI (kp + 1))), (4, .int (nI i)), (0, .ref (a 3)), (1, .ref (a 7)), (2, .int x1)]) hx hb dX3_forgetWhere_29 hl (k := 1) rfl (fw_inc _) (by decide) rfl (fun ls hl => ?_)
          refine lv_iinc (v := nI (i + 1)) (lv' := [(4, .int (nI (i + 1))), (3, .int (nI (kp + 1))), (0, .ref (a 3)), (1, .ref (a 7)), (2, .int x1)]) hx hb dX3_forgetWhere_32 hl (k := 1) rfl (fw_inc _) (by decide) rfl (fun ls hl => ?_)
          refine lv_goto (tgt := 5) hx hb dX3_forgetWhere_35 (by decide) ?_
          exact ih_5 (i + 1) (kp + 1) (upd lk1 kp (lk1 i)) (upd ss1 kp (ss1 i)) (upd rw1 kp (rw1 i)) (upd sg1 kp (sg1 i)) _ _ _ (by omega) (by omega) (by omega) (by rw [fw_itS, ← hf]; simp [px_fwS, px_cp, c_19]) hP hD hS (lv_sub hl [0, 1, 2, 3, 4] rfl)
  exact lp_5 _ 0 0 lk ss rw sg _ _ _ (Nat.lt_succ_self _) (by omega) (by omega) (rfl) hP hD hS (lv_sub hl [0, 1, 2, 3, 4] rfl)

set_option maxHeartbeats 4000000 in
set_option maxRecDepth 100000 in
theorem c_X3_forgetWhere_r (l : Launch) (G : va_G) (cB cI cZ : ClassId) (tc : Nat) (a : Nat → Nat) (gv qc : Int32) (rn lv lk ss rw sg od aw tb md ql dr : Nat → Int32) (n : Nat) (x1 : Int32) (hn5 : n ≤ 512) : KC l yX3_forgetWhere wsX3_forgetWhere rmX3_forgetWhere G [(cB, .byte), (cI, .int), (cZ, .boolean)] tc [.ref (a 3), .ref (a 9), .int x1] (wd a cB cI cZ gv rn lv (nI n) lk ss rw sg qc od aw tb md ql dr) (fun v w' => v = none ∧ w' = (wd a cB cI cZ gv rn lv (nI (px_fw (fun q => q.2.2.1) x1 n (lk, ss, rw, sg)).1) ((px_fw (fun q => q.2.2.1) x1 n (lk, ss, rw, sg)).2.1) ((px_fw (fun q => q.2.2.1) x1 n (lk, ss, rw, sg)).2.2.1) ((px_fw (fun q => q.2.2.1) x1 n (lk, ss, rw, sg)).2.2.2.1) ((px_fw (fun q => q.2.2.1) x1 n (lk, ss, rw, sg)).2.2.2.2) qc od aw tb md ql dr)) := by
  refine KC.of (cc := cX3_forgetWhere) (maxL := 5) (ret := none) (by decide) rfl (Nat.le_of_ble_eq_true rfl) ?_
  intro p e s m below meth c args A Q ls hx hb hml hown hts hK hZ hA hP hD hS hl hri hrv
  have hown : s.vm.findClass RX3 = some m.cls := hown
  have hl : lv_has ls 5 [(0, .ref (a 3)), (1, .ref (a 9)), (2, .int x1)] := hl
  have fl_24 := hts (.fieldLink RX3 24 "LockDesk$RowLocks" "count" "I") (by decide +kernel)
  have hin3 : ∀ w ∈ wsX30, w ∈ wsX3_forgetWhere := by decide +kernel
  refine lv_iconst (v := 0) hx hb dX3_forgetWhere_0 (by decide) ?_
  refine lv_istore_n (lv' := [(3, .int 0), (0, .ref (a 3)), (1, .ref (a 9)), (2, .int x1)]) hx hb dX3_forgetWhere_1 rfl hl (by decide) rfl (fun ls hl => ?_)
  refine lv_iconst (v := 0) hx hb dX3_forgetWhere_2 (by decide) ?_
  refine lv_istore (lv' := [(4, .int 0), (3, .int 0), (0, .ref (a 3)), (1, .ref (a 9)), (2, .int x1)]) hx hb dX3_forgetWhere_3 hl (by decide) rfl (fun ls hl => ?_)
  have lp_5 : ∀ (nf : Nat) (i kp : Nat) (lk1 ss1 rw1 sg1 : Nat → Int32) (H : Heap) (locs : List Loc) (ls : Array Slot), n - i < nf → (i ≤ n) → (kp ≤ i) → ((kp, lk1, ss1, rw1, sg1) = fw_it (px_fwS (fun q => q.2.2.1) x1) i (0, lk, ss, rw, sg)) → va_P G vwCl (wd a cB cI cZ gv rn lv (nI n) lk1 ss1 rw1 sg1 qc od aw tb md ql dr) H → va_D A (wd a cB cI cZ gv rn lv (nI n) lk1 ss1 rw1 sg1 qc od aw tb md ql dr) → va_S A s.heap H locs → lv_has ls 5 [(4, .int (nI i)), (3, .int (nI kp)), (0, .ref (a 3)), (1, .ref (a 9)), (2, .int x1)] → W p l e rmX3_forgetWhere s m args below meth c H locs 0 0 Q (F0 m 5 ls []) := by
    intro nf
    induction nf with
    | zero => intro i kp lk1 ss1 rw1 sg1 H locs ls h0; exact absurd h0 (Nat.not_lt_zero _)
    | succ nf_5 ih_5 =>
      intro i kp lk1 ss1 rw1 sg1 H locs ls hn_5 hi hk hf hP hD hS hl
      refine lv_iload hx hb dX3_forgetWhere_5 (lv_at hl 0 rfl) ?_
      refine lv_aload_n hx hb dX3_forgetWhere_7 rfl (lv_at hl 2 rfl) ?_
      refine va_get (D := G) (ci := 3) (v := .int (nI n)) (C := RX3) (T := TX3) (N := 5) hx hb hts hin3 hown hK hP 3 rfl rfl 4 (by decide) fl_24 (fun _ h9 => h9) rfl dX3_forgetWhere_8 ?_
      refine lv_icmp_ge (tgt := 38) hx hb dX3_forgetWhere_11 (by decide) (fun c_11 => ?_) (fun c_11 => ?_)
      · have hE : i = n := by
          have := fw_nle c_11 (by omega) (by omega)
          omega
        refine lv_aload_n hx hb dX3_forgetWhere_38 rfl (lv_at hl 2 rfl) ?_
        refine lv_iload_n hx hb dX3_forgetWhere_39 rfl (lv_at hl 1 rfl) ?_
        refine va_put (D := G) (ci := 3) (v := .int (nI kp)) (ty := .int) (C := RX3) (T := TX3) (N := 5) hx hb hts hin3 tyX3 tyX3_ok nmX3 hown hK hP hD hS 3 rfl rfl 4 (by decide) fl_24 (fun _ h9 => h9) rfl (by decide +kernel) rfl rfl (Nat.le_of_ble_eq_true rfl) dX3_forgetWhere_40 (fun H locs hP hD hS => ?_)
        have hP : va_P G vwCl (wd a cB cI cZ gv rn lv (nI kp) lk1 ss1 rw1 sg1 qc od aw tb md ql dr) H := hP
        have hD : va_D A (wd a cB cI cZ gv rn lv (nI kp) lk1 ss1 rw1 sg1 qc od aw tb md ql dr) := hD
        exact hrv rfl _ _ _ _ _ (⟨rfl, by rw [px_fw, ← hE, ← hf]⟩) hP hD hS dX3_forgetWhere_43
      · have hL : i < n := by
          have := fw_nlt c_11 (by omega) (by omega)
          omega
        refine lv_aload_n hx hb dX3_forgetWhere_14 rfl (lv_at hl 3 rfl) ?_
        refine lv_iload hx hb dX3_forgetWhere_15 (lv_at hl 0 rfl) ?_
        refine fw_iald (j := i) (f := rw1) hx hb hK hP 9 1 rfl rfl (by omega) (by decide) dX3_forgetWhere_17 ?_
        refine lv_iload_n hx hb dX3_forgetWhere_18 rfl (lv_at hl 4 rfl) ?_
        refine lv_icmp_eq (tgt := 32) hx hb dX3_forgetWhere_19 (by decide) (fun c_19 => ?_) (fun c_19 => ?_)
        · refine lv_iinc (v := nI (i + 1)) (lv' := [(4, .int (nI (i + 1))), (3, .int (nI kp)), (0, .ref (a 3)), (1, .ref (a 9)), (2, .int x1)]) hx hb dX3_forgetWhere_32 hl (k := 0) rfl (fw_inc _) (by decide) rfl (fun ls hl => ?_)
          refine lv_goto (tgt := 5) hx hb dX3_forgetWhere_35 (by decide) ?_
          exact ih_5 (i + 1) kp lk1 ss1 rw1 sg1 _ _ _ (by omega) (by omega) (by omega) (by rw [fw_itS, ← hf]; simp [px_fwS, px_cp, c_19]) hP hD hS (lv_sub hl [0, 1, 2, 3, 4] rfl)
        · refine lv_aload_n hx hb dX3_forgetWhere_22 rfl (lv_at hl 2 rfl) ?_
          refine lv_iload hx hb dX3_forgetWhere_23 (lv_at hl 0 rfl) ?_
          refine lv_iload_n hx hb dX3_forgetWhere_25 rfl (lv_at hl 1 rfl) ?_
          refine kV (As := [.int (nI i), .int (nI kp)]) (rest := []) ⟨hx, hb, hml, hown, hts⟩ (c_X3_copy l G cB cI cZ tc a gv (nI n) qc rn lv lk1 ss1 rw1 sg1 od aw tb md ql dr i kp (by omega) (by omega)) (cwV 2 hts gX3_forgetWhere_X3_copy rfl rfl rfl (by decide +kernel) ⟨by decide, by decide⟩) hK hZ hA hP hD hS 3 3 rfl rfl rfl hl.1 rfl (Nat.le_of_ble_eq_true rfl) dX3_forgetWhere_26 ⟨Nat.zero_le _, Nat.zero_le _⟩ (fun v w' H locs hp hP hD hS => ?_)
          obtain ⟨rfl, rfl⟩ := hp
          have hP : va_P G vwCl (wd a cB cI cZ gv rn lv (nI n) (upd lk1 kp (lk1 i)) (upd ss1 kp (ss1 i)) (upd rw1 kp (rw1 i)) (upd sg1 kp (sg1 i)) qc od aw tb md ql dr) H := hP
          have hD : va_D A (wd a cB cI cZ gv rn lv (nI n) (upd lk1 kp (lk1 i)) (upd ss1 kp (ss1 i)) (upd rw1 kp (rw1 i)) (upd sg1 kp (sg1 i)) qc od aw tb md ql dr) := hD
          refine W.eq (g2 := F0 m 29 ls []) rfl ?_
          refine lv_iinc (v := nI (kp + 1)) (lv' := [(3, .int (nI (kp + 1))), (4, .int (nI i)), (0, .ref (a 3)), (1, .ref (a 9)), (2, .int x1)]) hx hb dX3_forgetWhere_29 hl (k := 1) rfl (fw_inc _) (by decide) rfl (fun ls hl => ?_)
          refine lv_iinc (v := nI (i + 1)) (lv' := [(4, .int (nI (i + 1))), (3, .int (nI (kp + 1))), (0, .ref (a 3)), (1, .ref (a 9)), (2, .int x1)]) hx hb dX3_forgetWhere_32 hl (k := 1) rfl (fw_inc _) (by decide) rfl (fun ls hl => ?_)
          refine lv_goto (tgt := 5) hx hb dX3_forgetWhere_35 (by decide) ?_
          exact ih_5 (i + 1) (kp + 1) (upd lk1 kp (lk1 i)) (upd ss1 kp (ss1 i)) (upd rw1 kp (rw1 i)) (upd sg1 kp (sg1 i)) _ _ _ (by omega) (by omega) (by omega) (by rw [fw_itS, ← hf]; simp [px_fwS, px_cp, c_19]) hP hD hS (lv_sub hl [0, 1, 2, 3, 4] rfl)
  exact lp_5 _ 0 0 lk ss rw sg _ _ _ (Nat.lt_succ_self _) (by omega) (by omega) (rfl) hP hD hS (lv_sub hl [0, 1, 2, 3, 4] rfl)

abbrev rmX3_forgetNumber : Room := { frames := 2, cells := 0, slots := 0, locals := 46 }
set_option maxHeartbeats 4000000 in
set_option maxRecDepth 100000 in
theorem c_X3_forgetNumber (l : Launch) (G : va_G) (cB cI cZ : ClassId) (tc : Nat) (a : Nat → Nat) (gv qc : Int32) (rn lv lk ss rw sg od aw tb md ql dr : Nat → Int32) (n : Nat) (x1 : Int32) (hn5 : n ≤ 512) : KC l yX3_forgetNumber wsX3_forgetNumber rmX3_forgetNumber G [(cB, .byte), (cI, .int), (cZ, .boolean)] tc [.ref (a 3), .int x1] (wd a cB cI cZ gv rn lv (nI n) lk ss rw sg qc od aw tb md ql dr) (fun v w' => v = none ∧ w' = (wd a cB cI cZ gv rn lv (nI (px_fw (fun q => q.1) x1 n (lk, ss, rw, sg)).1) ((px_fw (fun q => q.1) x1 n (lk, ss, rw, sg)).2.1) ((px_fw (fun q => q.1) x1 n (lk, ss, rw, sg)).2.2.1) ((px_fw (fun q => q.1) x1 n (lk, ss, rw, sg)).2.2.2.1) ((px_fw (fun q => q.1) x1 n (lk, ss, rw, sg)).2.2.2.2) qc od aw tb md ql dr)) := by
  refine KC.of (cc := cX3_forgetNumber) (maxL := 2) (ret := none) (by decide) rfl (Nat.le_of_ble_eq_true rfl) ?_
  intro p e s m below meth c args A Q ls hx hb hml hown hts hK hZ hA hP hD hS hl hri hrv
  have hown : s.vm.findClass RX3 = some m.cls := hown
  have hl : lv_has ls 2 [(0, .ref (a 3)), (1, .int x1)] := hl
  have fl_9 := hts (.fieldLink RX3 9 "LockDesk$RowLocks" "lockers" "[I") (by decide +kernel)
  have hin3 : ∀ w ∈ wsX30, w ∈ wsX3_forgetNumber := by decide +kernel
  refine lv_aload_n hx hb dX3_forgetNumber_0 rfl (lv_at hl 0 rfl) ?_
  refine lv_aload_n hx hb dX3_forgetNumber_1 rfl (lv_at hl 0 rfl) ?_
  refine va_get (D := G) (ci := 3) (v := .ref (a 7)) (C := RX3) (T := TX3) (N := 5) hx hb hts hin3 hown hK hP 3 rfl rfl 0 (by decide) fl_9 (fun _ h9 => h9) rfl dX3_forgetNumber_2 ?_
  refine lv_iload_n hx hb dX3_forgetNumber_5 rfl (lv_at hl 1 rfl) ?_
  refine kV (As := [.ref (a 7), .int x1]) (rest := []) ⟨hx, hb, hml, hown, hts⟩ (c_X3_forgetWhere_n l G cB cI cZ tc a gv qc rn lv lk ss rw sg od aw tb md ql dr n x1 hn5) (cwV 2 hts gX3_forgetNumber_X3_forgetWhere rfl rfl rfl (by decide +kernel) ⟨by decide, by decide⟩) hK hZ hA hP hD hS 3 3 rfl rfl rfl hl.1 rfl (Nat.le_of_ble_eq_true rfl) dX3_forgetNumber_6 ⟨Nat.zero_le _, Nat.zero_le _⟩ (fun v w' H locs hp hP hD hS => ?_)
  obtain ⟨rfl, rfl⟩ := hp
  have hP : va_P G vwCl (wd a cB cI cZ gv rn lv (nI (px_fw (fun q => q.1) x1 n (lk, ss, rw, sg)).1) ((px_fw (fun q => q.1) x1 n (lk, ss, rw, sg)).2.1) ((px_fw (fun q => q.1) x1 n (lk, ss, rw, sg)).2.2.1) ((px_fw (fun q => q.1) x1 n (lk, ss, rw, sg)).2.2.2.1) ((px_fw (fun q => q.1) x1 n (lk, ss, rw, sg)).2.2.2.2) qc od aw tb md ql dr) H := hP
  have hD : va_D A (wd a cB cI cZ gv rn lv (nI (px_fw (fun q => q.1) x1 n (lk, ss, rw, sg)).1) ((px_fw (fun q => q.1) x1 n (lk, ss, rw, sg)).2.1) ((px_fw (fun q => q.1) x1 n (lk, ss, rw, sg)).2.2.1) ((px_fw (fun q => q.1) x1 n (lk, ss, rw, sg)).2.2.2.1) ((px_fw (fun q => q.1) x1 n (lk, ss, rw, sg)).2.2.2.2) qc od aw tb md ql dr) := hD
  refine W.eq (g2 := F0 m 9 ls []) rfl ?_
  exact hrv rfl _ _ _ _ _ (⟨rfl, rfl⟩) hP hD hS dX3_forgetNumber_9

abbrev rmX3_forgetRow : Room := { frames := 2, cells := 0, slots := 0, locals := 46 }
set_option maxHeartbeats 4000000 in
set_option maxRecDepth 100000 in
theorem c_X3_forgetRow (l : Launch) (G : va_G) (cB cI cZ : ClassId) (tc : Nat) (a : Nat → Nat) (gv qc : Int32) (rn lv lk ss rw sg od aw tb md ql dr : Nat → Int32) (n : Nat) (x1 : Int32) (hn5 : n ≤ 512) : KC l yX3_forgetRow wsX3_forgetRow rmX3_forgetRow G [(cB, .byte), (cI, .int), (cZ, .boolean)] tc [.ref (a 3), .int x1] (wd a cB cI cZ gv rn lv (nI n) lk ss rw sg qc od aw tb md ql dr) (fun v w' => v = none ∧ w' = (wd a cB cI cZ gv rn lv (nI (px_fw (fun q => q.2.2.1) x1 n (lk, ss, rw, sg)).1) ((px_fw (fun q => q.2.2.1) x1 n (lk, ss, rw, sg)).2.1) ((px_fw (fun q => q.2.2.1) x1 n (lk, ss, rw, sg)).2.2.1) ((px_fw (fun q => q.2.2.1) x1 n (lk, ss, rw, sg)).2.2.2.1) ((px_fw (fun q => q.2.2.1) x1 n (lk, ss, rw, sg)).2.2.2.2) qc od aw tb md ql dr)) := by
  refine KC.of (cc := cX3_forgetRow) (maxL := 2) (ret := none) (by decide) rfl (Nat.le_of_ble_eq_true rfl) ?_
  intro p e s m below meth c args A Q ls hx hb hml hown hts hK hZ hA hP hD hS hl hri hrv
  have hown : s.vm.findClass RX3 = some m.cls := hown
  have hl : lv_has ls 2 [(0, .ref (a 3)), (1, .int x1)] := hl
  have fl_18 := hts (.fieldLink RX3 18 "LockDesk$RowLocks" "rows" "[I") (by decide +kernel)
  have hin3 : ∀ w ∈ wsX30, w ∈ wsX3_forgetRow := by decide +kernel
  refine lv_aload_n hx hb dX3_forgetRow_0 rfl (lv_at hl 0 rfl) ?_
  refine lv_aload_n hx hb dX3_forgetRow_1 rfl (lv_at hl 0 rfl) ?_
  refine va_get (D := G) (ci := 3) (v := .ref (a 9)) (C := RX3) (T := TX3) (N := 5) hx hb hts hin3 hown hK hP 3 rfl rfl 2 (by decide) fl_18 (fun _ h9 => h9) rfl dX3_forgetRow_2 ?_
  refine lv_iload_n hx hb dX3_forgetRow_5 rfl (lv_at hl 1 rfl) ?_
  refine kV (As := [.ref (a 9), .int x1]) (rest := []) ⟨hx, hb, hml, hown, hts⟩ (c_X3_forgetWhere_r l G cB cI cZ tc a gv qc rn lv lk ss rw sg od aw tb md ql dr n x1 hn5) (cwV 2 hts gX3_forgetRow_X3_forgetWhere rfl rfl rfl (by decide +kernel) ⟨by decide, by decide⟩) hK hZ hA hP hD hS 3 3 rfl rfl rfl hl.1 rfl (Nat.le_of_ble_eq_true rfl) dX3_forgetRow_6 ⟨Nat.zero_le _, Nat.zero_le _⟩ (fun v w' H locs hp hP hD hS => ?_)
  obtain ⟨rfl, rfl⟩ := hp
  have hP : va_P G vwCl (wd a cB cI cZ gv rn lv (nI (px_fw (fun q => q.2.2.1) x1 n (lk, ss, rw, sg)).1) ((px_fw (fun q => q.2.2.1) x1 n (lk, ss, rw, sg)).2.1) ((px_fw (fun q => q.2.2.1) x1 n (lk, ss, rw, sg)).2.2.1) ((px_fw (fun q => q.2.2.1) x1 n (lk, ss, rw, sg)).2.2.2.1) ((px_fw (fun q => q.2.2.1) x1 n (lk, ss, rw, sg)).2.2.2.2) qc od aw tb md ql dr) H := hP
  have hD : va_D A (wd a cB cI cZ gv rn lv (nI (px_fw (fun q => q.2.2.1) x1 n (lk, ss, rw, sg)).1) ((px_fw (fun q => q.2.2.1) x1 n (lk, ss, rw, sg)).2.1) ((px_fw (fun q => q.2.2.1) x1 n (lk, ss, rw, sg)).2.2.1) ((px_fw (fun q => q.2.2.1) x1 n (lk, ss, rw, sg)).2.2.2.1) ((px_fw (fun q => q.2.2.1) x1 n (lk, ss, rw, sg)).2.2.2.2) qc od aw tb md ql dr) := hD
  refine W.eq (g2 := F0 m 9 ls []) rfl ?_
  exact hrv rfl _ _ _ _ _ (⟨rfl, rfl⟩) hP hD hS dX3_forgetRow_9

abbrev rmX3_signedNumberAt : Room := { frames := 0, cells := 0, slots := 0, locals := 0 }
set_option maxHeartbeats 4000000 in
set_option maxRecDepth 100000 in
theorem c_X3_signedNumberAt (l : Launch) (G : va_G) (cB cI cZ : ClassId) (tc : Nat) (a : Nat → Nat) (gv qc : Int32) (rn lv lk ss rw sg od aw tb md ql dr : Nat → Int32) (n : Nat) (x1 : Int32) (x2 : Int32) (hn5 : n ≤ 512) : KC l yX3_signedNumberAt wsX3_signedNumberAt rmX3_signedNumberAt G [(cB, .byte), (cI, .int), (cZ, .boolean)] tc [.ref (a 3), .int x1, .int x2] (wd a cB cI cZ gv rn lv (nI n) lk ss rw sg qc od aw tb md ql dr) (fun v w' => v = some (.int (px_sn n lk rw sg x1 x2)) ∧ w' = (wd a cB cI cZ gv rn lv (nI n) lk ss rw sg qc od aw tb md ql dr)) := by
  refine KC.of (cc := cX3_signedNumberAt) (maxL := 5) (ret := some .int) (by decide) rfl (Nat.le_of_ble_eq_true rfl) ?_
  intro p e s m below meth c args A Q ls hx hb hml hown hts hK hZ hA hP hD hS hl hri hrv
  have hown : s.vm.findClass RX3 = some m.cls := hown
  have hl : lv_has ls 5 [(0, .ref (a 3)), (1, .int x1), (2, .int x2)] := hl
  have fl_9 := hts (.fieldLink RX3 9 "LockDesk$RowLocks" "lockers" "[I") (by decide +kernel)
  have fl_18 := hts (.fieldLink RX3 18 "LockDesk$RowLocks" "rows" "[I") (by decide +kernel)
  have fl_21 := hts (.fieldLink RX3 21 "LockDesk$RowLocks" "strengths" "[I") (by decide +kernel)
  have fl_24 := hts (.fieldLink RX3 24 "LockDesk$RowLocks" "count" "I") (by decide +kernel)
  have hin3 : ∀ w ∈ wsX30, w ∈ wsX3_signedNumberAt := by decide +kernel
  refine lv_iconst (v := 0) hx hb dX3_signedNumberAt_0 (by decide) ?_
  refine lv_istore_n (lv' := [(3, .int 0), (0, .ref (a 3)), (1, .int x1), (2, .int x2)]) hx hb dX3_signedNumberAt_1 rfl hl (by decide) rfl (fun ls hl => ?_)
  refine lv_iconst (v := 0) hx hb dX3_signedNumberAt_2 (by decide) ?_
  refine lv_istore (lv' := [(4, .int 0), (3, .int 0), (0, .ref (a 3)), (1, .int x1), (2, .int x2)]) hx hb dX3_signedNumberAt_3 hl (by decide) rfl (fun ls hl => ?_)
  have lp_5 : ∀ (nf : Nat) (i : Nat) (H : Heap) (locs : List Loc) (ls : Array Slot), n - i < nf → (i ≤ n) → (px_fst (px_snP rw x1 x2) i = none) → va_P G vwCl (wd a cB cI cZ gv rn lv (nI n) lk ss rw sg qc od aw tb md ql dr) H → va_D A (wd a cB cI cZ gv rn lv (nI n) lk ss rw sg qc od aw tb md ql dr) → va_S A s.heap H locs → lv_has ls 5 [(4, .int (nI i)), (3, .int (nI (px_cnt (px_rowP rw x1) i))), (0, .ref (a 3)), (1, .int x1), (2, .int x2)] → W p l e rmX3_signedNumberAt s m args below meth c H locs 0 0 Q (F0 m 5 ls []) := by
    intro nf
    induction nf with
    | zero => intro i H locs ls h0; exact absurd h0 (Nat.not_lt_zero _)
    | succ nf_5 ih_5 =>
      intro i H locs ls hn_5 hi hno hP hD hS hl
      refine lv_iload hx hb dX3_signedNumberAt_5 (lv_at hl 0 rfl) ?_
      refine lv_aload_n hx hb dX3_signedNumberAt_7 rfl (lv_at hl 2 rfl) ?_
      refine va_get (D := G) (ci := 3) (v := .int (nI n)) (C := RX3) (T := TX3) (N := 5) hx hb hts hin3 hown hK hP 3 rfl rfl 4 (by decide) fl_24 (fun _ h9 => h9) rfl dX3_signedNumberAt_8 ?_
      refine lv_icmp_ge (tgt := 72) hx hb dX3_signedNumberAt_11 (by decide) (fun c_11 => ?_) (fun c_11 => ?_)
      · have hE : i = n := by
          have := fw_nle c_11 (by omega) (by omega)
          omega
        refine lv_iconst (v := 0) hx hb dX3_signedNumberAt_72 (by decide) ?_
        exact hri _ rfl 0 _ _ _ _ _ (rfl) (⟨by rw [px_sn, ← hE, hno], rfl⟩) hP hD hS dX3_signedNumberAt_73
      · have hL : i < n := by
          have := fw_nlt c_11 (by omega) (by omega)
          omega
        refine lv_aload_n hx hb dX3_signedNumberAt_14 rfl (lv_at hl 2 rfl) ?_
        refine va_get (D := G) (ci := 3) (v := .ref (a 9)) (C := RX3) (T := TX3) (N := 5) hx hb hts hin3 hown hK hP 3 rfl rfl 2 (by decide) fl_18 (fun _ h9 => h9) rfl dX3_signedNumberAt_15 ?_
        refine lv_iload hx hb dX3_signedNumberAt_18 (lv_at hl 0 rfl) ?_
        refine fw_iald (j := i) (f := rw) hx hb hK hP 9 1 rfl rfl (by omega) (by decide) dX3_signedNumberAt_20 ?_
        refine lv_iload_n hx hb dX3_signedNumberAt_21 rfl (lv_at hl 3 rfl) ?_
        refine lv_icmp_eq (tgt := 28) hx hb dX3_signedNumberAt_22 (by decide) (fun c_22 => ?_) (fun c_22 => ?_)
        · refine lv_iload_n hx hb dX3_signedNumberAt_28 rfl (lv_at hl 1 rfl) ?_
          refine lv_iload_n hx hb dX3_signedNumberAt_29 rfl (lv_at hl 4 rfl) ?_
          refine lv_icmp_ne (tgt := 63) hx hb dX3_signedNumberAt_30 (by decide) (fun c_30 => ?_) (fun c_30 => ?_)
          · refine lv_iinc (v := nI (px_cnt (px_rowP rw x1) (i + 1))) (lv' := [(3, .int (nI (px_cnt (px_rowP rw x1) (i + 1)))), (4, .int (nI i)), (0, .ref (a 3)), (1, .int x1), (2, .int x2)]) hx hb dX3_signedNumberAt_63 hl (k := 1) rfl (by simp only [px_cnt, px_rowP, c_22, decide_true, if_true]; exact fw_inc _) (by decide) rfl (fun ls hl => ?_)
            refine lv_iinc (v := nI (i + 1)) (lv' := [(4, .int (nI (i + 1))), (3, .int (nI (px_cnt (px_rowP rw x1) (i + 1)))), (0, .ref (a 3)), (1, .int x1), (2, .int x2)]) hx hb dX3_signedNumberAt_66 hl (k := 1) rfl (fw_inc _) (by decide) rfl (fun ls hl => ?_)
            refine lv_goto (tgt := 5) hx hb dX3_signedNumberAt_69 (by decide) ?_
            exact ih_5 (i + 1) _ _ _ (by omega) (by omega) (px_fstS hno (by simp [px_snP, c_22, c_30])) hP hD hS (lv_sub hl [0, 1, 2, 3, 4] rfl)
          · refine lv_aload_n hx hb dX3_signedNumberAt_33 rfl (lv_at hl 2 rfl) ?_
            refine va_get (D := G) (ci := 3) (v := .ref (a 10)) (C := RX3) (T := TX3) (N := 5) hx hb hts hin3 hown hK hP 3 rfl rfl 3 (by decide) fl_21 (fun _ h9 => h9) rfl dX3_signedNumberAt_34 ?_
            refine lv_iload hx hb dX3_signedNumberAt_37 (lv_at hl 0 rfl) ?_
            refine fw_iald (j := i) (f := sg) hx hb hK hP 10 1 rfl rfl (by omega) (by decide) dX3_signedNumberAt_39 ?_
            refine lv_iconst (v := 2) hx hb dX3_signedNumberAt_40 (by decide) ?_
            refine lv_icmp_ne (tgt := 54) hx hb dX3_signedNumberAt_41 (by decide) (fun c_41 => ?_) (fun c_41 => ?_)
            · refine lv_aload_n hx hb dX3_signedNumberAt_54 rfl (lv_at hl 2 rfl) ?_
              refine va_get (D := G) (ci := 3) (v := .ref (a 7)) (C := RX3) (T := TX3) (N := 5) hx hb hts hin3 hown hK hP 3 rfl rfl 0 (by decide) fl_9 (fun _ h9 => h9) rfl dX3_signedNumberAt_55 ?_
              refine lv_iload hx hb dX3_signedNumberAt_58 (lv_at hl 0 rfl) ?_
              refine fw_iald (j := i) (f := lk) hx hb hK hP 7 1 rfl rfl (by omega) (by decide) dX3_signedNumberAt_60 ?_
              refine lv_ineg hx hb dX3_signedNumberAt_61 ?_
              exact hri _ rfl (-(lk i)) _ _ _ _ _ (rfl) (⟨by rw [px_sn, px_fstT hno (by simp [px_snP, c_22, c_30]) hL]; simp [c_41], rfl⟩) hP hD hS dX3_signedNumberAt_62
            · refine lv_aload_n hx hb dX3_signedNumberAt_44 rfl (lv_at hl 2 rfl) ?_
              refine va_get (D := G) (ci := 3) (v := .ref (a 7)) (C := RX3) (T := TX3) (N := 5) hx hb hts hin3 hown hK hP 3 rfl rfl 0 (by decide) fl_9 (fun _ h9 => h9) rfl dX3_signedNumberAt_45 ?_
              refine lv_iload hx hb dX3_signedNumberAt_48 (lv_at hl 0 rfl) ?_
              refine fw_iald (j := i) (f := lk) hx hb hK hP 7 1 rfl rfl (by omega) (by decide) dX3_signedNumberAt_50 ?_
              refine lv_goto (tgt := 62) hx hb dX3_signedNumberAt_51 (by decide) ?_
              exact hri _ rfl (lk i) _ _ _ _ _ (rfl) (⟨by rw [px_sn, px_fstT hno (by simp [px_snP, c_22, c_30]) hL]; simp [c_41], rfl⟩) hP hD hS dX3_signedNumberAt_62
        · refine lv_goto (tgt := 66) hx hb dX3_signedNumberAt_25 (by decide) ?_
          refine lv_iinc (v := nI (i + 1)) (lv' := [(4, .int (nI (i + 1))), (3, .int (nI (px_cnt (px_rowP rw x1) i))), (0, .ref (a 3)), (1, .int x1), (2, .int x2)]) hx hb dX3_signedNumberAt_66 hl (k := 0) rfl (fw_inc _) (by decide) rfl (fun ls hl => ?_)
          have eC : px_cnt (px_rowP rw x1) (i + 1) = px_cnt (px_rowP rw x1) i := by simp [px_cnt, px_rowP, c_22]
          rw [← eC] at hl
          refine lv_goto (tgt := 5) hx hb dX3_signedNumberAt_69 (by decide) ?_
          exact ih_5 (i + 1) _ _ _ (by omega) (by omega) (px_fstS hno (by simp [px_snP, c_22])) hP hD hS (lv_sub hl [0, 1, 2, 3, 4] rfl)
  exact lp_5 _ 0 _ _ _ (Nat.lt_succ_self _) (by omega) (rfl) hP hD hS (lv_sub hl [0, 1, 2, 3, 4] rfl)

abbrev rmX3_note : Room := { frames := 1, cells := 0, slots := 0, locals := 22 }
set_option maxHeartbeats 4000000 in
set_option maxRecDepth 100000 in
theorem c_X3_note (l : Launch) (G : va_G) (cB cI cZ : ClassId) (tc : Nat) (a : Nat → Nat) (gv qc : Int32) (rn lv lk ss rw sg od aw tb md ql dr : Nat → Int32) (n : Nat) (x1 : Int32) (x2 : Int32) (x3 : Int32) (x4 : Int32) (hn5 : n < 512) : KC l yX3_note wsX3_note rmX3_note G [(cB, .byte), (cI, .int), (cZ, .boolean)] tc [.ref (a 3), .int x1, .int x2, .int x3, .int x4] (wd a cB cI cZ gv rn lv (nI n) lk ss rw sg qc od aw tb md ql dr) (fun v w' => v = some (.int 1) ∧ ((∃ i, i < n ∧ px_foundAt lk rw x1 x3 i ∧ w' = (wd a cB cI cZ gv rn lv (nI n) lk ss rw (upd sg i x4) qc od aw tb md ql dr)) ∨ (∃ p, p ≤ n ∧ px_placeAt n lk rw x1 x3 p ∧ w' = (wd a cB cI cZ gv rn lv (nI (n + 1)) ((px_put p x1 x2 x3 x4 (px_sh n p (lk, ss, rw, sg))).1) ((px_put p x1 x2 x3 x4 (px_sh n p (lk, ss, rw, sg))).2.1) ((px_put p x1 x2 x3 x4 (px_sh n p (lk, ss, rw, sg))).2.2.1) ((px_put p x1 x2 x3 x4 (px_sh n p (lk, ss, rw, sg))).2.2.2) qc od aw tb md ql dr)))) := by
  refine KC.of (cc := cX3_note) (maxL := 7) (ret := some .boolean) (by decide) rfl (Nat.le_of_ble_eq_true rfl) ?_
  intro p e s m below meth c args A Q ls hx hb hml hown hts hK hZ hA hP hD hS hl hri hrv
  have hown : s.vm.findClass RX3 = some m.cls := hown
  have hl : lv_has ls 7 [(0, .ref (a 3)), (1, .int x1), (2, .int x2), (3, .int x3), (4, .int x4)] := hl
  have fl_9 := hts (.fieldLink RX3 9 "LockDesk$RowLocks" "lockers" "[I") (by decide +kernel)
  have fl_15 := hts (.fieldLink RX3 15 "LockDesk$RowLocks" "sessions" "[I") (by decide +kernel)
  have fl_18 := hts (.fieldLink RX3 18 "LockDesk$RowLocks" "rows" "[I") (by decide +kernel)
  have fl_21 := hts (.fieldLink RX3 21 "LockDesk$RowLocks" "strengths" "[I") (by decide +kernel)
  have fl_24 := hts (.fieldLink RX3 24 "LockDesk$RowLocks" "count" "I") (by decide +kernel)
  have hin3 : ∀ w ∈ wsX30, w ∈ wsX3_note := by decide +kernel
  refine lv_iconst (v := 0) hx hb dX3_note_0 (by decide) ?_
  refine lv_istore (lv' := [(5, .int 0), (0, .ref (a 3)), (1, .int x1), (2, .int x2), (3, .int x3), (4, .int x4)]) hx hb dX3_note_1 hl (by decide) rfl (fun ls hl => ?_)
  have lp_3 : ∀ (nf : Nat) (i : Nat) (H : Heap) (locs : List Loc) (ls : Array Slot), n - i < nf → (i ≤ n) → (∀ j, j < i → ¬ x1 < lk j ∧ ¬ (lk j = x1 ∧ rw j = x3)) → va_P G vwCl (wd a cB cI cZ gv rn lv (nI n) lk ss rw sg qc od aw tb md ql dr) H → va_D A (wd a cB cI cZ gv rn lv (nI n) lk ss rw sg qc od aw tb md ql dr) → va_S A s.heap H locs → lv_has ls 7 [(5, .int (nI i)), (0, .ref (a 3)), (1, .int x1), (2, .int x2), (3, .int x3), (4, .int x4)] → W p l e rmX3_note s m args below meth c H locs 0 0 Q (F0 m 3 ls []) := by
    intro nf
    induction nf with
    | zero => intro i H locs ls h0; exact absurd h0 (Nat.not_lt_zero _)
    | succ nf_3 ih_3 =>
      intro i H locs ls hn_3 hi hall hP hD hS hl
      refine lv_iload hx hb dX3_note_3 (lv_at hl 0 rfl) ?_
      refine lv_aload_n hx hb dX3_note_5 rfl (lv_at hl 1 rfl) ?_
      refine va_get (D := G) (ci := 3) (v := .int (nI n)) (C := RX3) (T := TX3) (N := 5) hx hb hts hin3 hown hK hP 3 rfl rfl 4 (by decide) fl_24 (fun _ h9 => h9) rfl dX3_note_6 ?_
      refine lv_icmp_ge (tgt := 62) hx hb dX3_note_9 (by decide) (fun c_9 => ?_) (fun c_9 => ?_)
      · have hE : i = n := by
          have := fw_nle c_9 (by omega) (by omega)
          omega
        have hpl : px_placeAt n lk rw x1 x3 i := ⟨hall, Or.inl hE⟩
        refine lv_aload_n hx hb dX3_note_62 rfl (lv_at hl 1 rfl) ?_
        refine va_get (D := G) (ci := 3) (v := .int (nI n)) (C := RX3) (T := TX3) (N := 5) hx hb hts hin3 hown hK hP 3 rfl rfl 4 (by decide) fl_24 (fun _ h9 => h9) rfl dX3_note_63 ?_
        refine lv_sipush (v := 512) hx hb dX3_note_66 (by decide) ?_
        refine lv_icmp_lt (tgt := 74) hx hb dX3_note_69 (by decide) (fun c_69 => ?_) (fun c_69 => absurd ((nI_ltI (b := 512) (by omega) (by decide)).mpr hn5) c_69)
        refine lv_aload_n hx hb dX3_note_74 rfl (lv_at hl 1 rfl) ?_
        refine va_get (D := G) (ci := 3) (v := .int (nI n)) (C := RX3) (T := TX3) (N := 5) hx hb hts hin3 hown hK hP 3 rfl rfl 4 (by decide) fl_24 (fun _ h9 => h9) rfl dX3_note_75 ?_
        refine lv_istore (lv' := [(6, .int (nI n)), (5, .int (nI i)), (0, .ref (a 3)), (1, .int x1), (2, .int x2), (3, .int x3), (4, .int x4)]) hx hb dX3_note_78 hl (by decide) rfl (fun ls hl => ?_)
        have lp_80 : ∀ (nf : Nat) (t : Nat) (lk1 ss1 rw1 sg1 : Nat → Int32) (H : Heap) (locs : List Loc) (ls : Array Slot), n - i - t < nf → (t ≤ n - i) → ((lk1, ss1, rw1, sg1) = fw_it (px_shS n) t (lk, ss, rw, sg)) → va_P G vwCl (wd a cB cI cZ gv rn lv (nI n) lk1 ss1 rw1 sg1 qc od aw tb md ql dr) H → va_D A (wd a cB cI cZ gv rn lv (nI n) lk1 ss1 rw1 sg1 qc od aw tb md ql dr) → va_S A s.heap H locs → lv_has ls 7 [(6, .int (nI (n - t))), (5, .int (nI i)), (0, .ref (a 3)), (1, .int x1), (2, .int x2), (3, .int x3), (4, .int x4)] → W p l e rmX3_note s m args below meth c H locs 0 0 Q (F0 m 80 ls []) := by
          intro nf
          induction nf with
          | zero => intro t lk1 ss1 rw1 sg1 H locs ls h0; exact absurd h0 (Nat.not_lt_zero _)
          | succ nf_80 ih_80 =>
            intro t lk1 ss1 rw1 sg1 H locs ls hn_80 ht hf hP hD hS hl
            refine lv_iload hx hb dX3_note_80 (lv_at hl 0 rfl) ?_
            refine lv_iload hx hb dX3_note_82 (lv_at hl 1 rfl) ?_
            refine lv_icmp_le (tgt := 103) hx hb dX3_note_84 (by decide) (fun c_84 => ?_) (fun c_84 => ?_)
            · have hT : t = n - i := by
                have := fw_nle c_84 (by omega) (by omega)
                omega
              refine lv_aload_n hx hb dX3_note_103 rfl (lv_at hl 2 rfl) ?_
              refine va_get (D := G) (ci := 3) (v := .ref (a 7)) (C := RX3) (T := TX3) (N := 5) hx hb hts hin3 hown hK hP 3 rfl rfl 0 (by decide) fl_9 (fun _ h9 => h9) rfl dX3_note_104 ?_
              refine lv_iload hx hb dX3_note_107 (lv_at hl 1 rfl) ?_
              refine lv_iload_n hx hb dX3_note_109 rfl (lv_at hl 3 rfl) ?_
              refine fw_iast (j := i) (f := lk1) (x := x1) hx hb hK hP hD hS 7 1 rfl rfl (by omega) (by decide) dX3_note_110 (fun H locs hP hD hS => ?_)
              have hP : va_P G vwCl (wd a cB cI cZ gv rn lv (nI n) (upd lk1 i x1) ss1 rw1 sg1 qc od aw tb md ql dr) H := hP
              have hD : va_D A (wd a cB cI cZ gv rn lv (nI n) (upd lk1 i x1) ss1 rw1 sg1 qc od aw tb md ql dr) := hD
              refine lv_aload_n hx hb dX3_note_111 rfl (lv_at hl 2 rfl) ?_
              refine va_get (D := G) (ci := 3) (v := .ref (a 8)) (C := RX3) (T := TX3) (N := 5) hx hb hts hin3 hown hK hP 3 rfl rfl 1 (by decide) fl_15 (fun _ h9 => h9) rfl dX3_note_112 ?_
              refine lv_iload hx hb dX3_note_115 (lv_at hl 1 rfl) ?_
              refine lv_iload_n hx hb dX3_note_117 rfl (lv_at hl 4 rfl) ?_
              refine fw_iast (j := i) (f := ss1) (x := x2) hx hb hK hP hD hS 8 1 rfl rfl (by omega) (by decide) dX3_note_118 (fun H locs hP hD hS => ?_)
              have hP : va_P G vwCl (wd a cB cI cZ gv rn lv (nI n) (upd lk1 i x1) (upd ss1 i x2) rw1 sg1 qc od aw tb md ql dr) H := hP
              have hD : va_D A (wd a cB cI cZ gv rn lv (nI n) (upd lk1 i x1) (upd ss1 i x2) rw1 sg1 qc od aw tb md ql dr) := hD
              refine lv_aload_n hx hb dX3_note_119 rfl (lv_at hl 2 rfl) ?_
              refine va_get (D := G) (ci := 3) (v := .ref (a 9)) (C := RX3) (T := TX3) (N := 5) hx hb hts hin3 hown hK hP 3 rfl rfl 2 (by decide) fl_18 (fun _ h9 => h9) rfl dX3_note_120 ?_
              refine lv_iload hx hb dX3_note_123 (lv_at hl 1 rfl) ?_
              refine lv_iload_n hx hb dX3_note_125 rfl (lv_at hl 5 rfl) ?_
              refine fw_iast (j := i) (f := rw1) (x := x3) hx hb hK hP hD hS 9 1 rfl rfl (by omega) (by decide) dX3_note_126 (fun H locs hP hD hS => ?_)
              have hP : va_P G vwCl (wd a cB cI cZ gv rn lv (nI n) (upd lk1 i x1) (upd ss1 i x2) (upd rw1 i x3) sg1 qc od aw tb md ql dr) H := hP
              have hD : va_D A (wd a cB cI cZ gv rn lv (nI n) (upd lk1 i x1) (upd ss1 i x2) (upd rw1 i x3) sg1 qc od aw tb md ql dr) := hD
              refine lv_aload_n hx hb dX3_note_127 rfl (lv_at hl 2 rfl) ?_
              refine va_get (D := G) (ci := 3) (v := .ref (a 10)) (C := RX3) (T := TX3) (N := 5) hx hb hts hin3 hown hK hP 3 rfl rfl 3 (by decide) fl_21 (fun _ h9 => h9) rfl dX3_note_128 ?_
              refine lv_iload hx hb dX3_note_131 (lv_at hl 1 rfl) ?_
              refine lv_iload hx hb dX3_note_133 (lv_at hl 6 rfl) ?_
              refine fw_iast (j := i) (f := sg1) (x := x4) hx hb hK hP hD hS 10 1 rfl rfl (by omega) (by decide) dX3_note_135 (fun H locs hP hD hS => ?_)
              have hP : va_P G vwCl (wd a cB cI cZ gv rn lv (nI n) (upd lk1 i x1) (upd ss1 i x2) (upd rw1 i x3) (upd sg1 i x4) qc od aw tb md ql dr) H := hP
              have hD : va_D A (wd a cB cI cZ gv rn lv (nI n) (upd lk1 i x1) (upd ss1 i x2) (upd rw1 i x3) (upd sg1 i x4) qc od aw tb md ql dr) := hD
              refine lv_aload_n hx hb dX3_note_136 rfl (lv_at hl 2 rfl) ?_
              refine lv_dup hx hb dX3_note_137 rfl ?_
              refine va_get (D := G) (ci := 3) (v := .int (nI n)) (C := RX3) (T := TX3) (N := 5) hx hb hts hin3 hown hK hP 3 rfl rfl 4 (by decide) fl_24 (fun _ h9 => h9) rfl dX3_note_138 ?_
              refine lv_iconst (v := 1) hx hb dX3_note_141 (by decide) ?_
              refine lv_iadd hx hb dX3_note_142 ?_
              rw [nI_1 n]
              refine va_put (D := G) (ci := 3) (v := .int (nI (n + 1))) (ty := .int) (C := RX3) (T := TX3) (N := 5) hx hb hts hin3 tyX3 tyX3_ok nmX3 hown hK hP hD hS 3 rfl rfl 4 (by decide) fl_24 (fun _ h9 => h9) rfl (by decide +kernel) rfl rfl (Nat.le_of_ble_eq_true rfl) dX3_note_143 (fun H locs hP hD hS => ?_)
              have hP : va_P G vwCl (wd a cB cI cZ gv rn lv (nI (n + 1)) (upd lk1 i x1) (upd ss1 i x2) (upd rw1 i x3) (upd sg1 i x4) qc od aw tb md ql dr) H := hP
              have hD : va_D A (wd a cB cI cZ gv rn lv (nI (n + 1)) (upd lk1 i x1) (upd ss1 i x2) (upd rw1 i x3) (upd sg1 i x4) qc od aw tb md ql dr) := hD
              refine lv_iconst (v := 1) hx hb dX3_note_146 (by decide) ?_
              exact hri _ rfl 1 _ _ _ _ _ (by decide) (⟨rfl, Or.inr ⟨i, hi, hpl, by rw [px_sh, ← hT, ← hf]; rfl⟩⟩) hP hD hS dX3_note_147
            · have hT : t < n - i := by
                have := fw_nlt c_84 (by omega) (by omega)
                omega
              refine lv_aload_n hx hb dX3_note_87 rfl (lv_at hl 2 rfl) ?_
              refine lv_iload hx hb dX3_note_88 (lv_at hl 0 rfl) ?_
              refine lv_iconst (v := 1) hx hb dX3_note_90 (by decide) ?_
              refine lv_isub hx hb dX3_note_91 ?_
              rw [show nI (n - t) - 1 = nI (n - t - 1) from pk_sub (a := n - t) (b := 1) (by omega)]
              refine lv_iload hx hb dX3_note_92 (lv_at hl 0 rfl) ?_
              refine kV (As := [.int (nI (n - t - 1)), .int (nI (n - t))]) (rest := []) ⟨hx, hb, hml, hown, hts⟩ (c_X3_copy l G cB cI cZ tc a gv (nI n) qc rn lv lk1 ss1 rw1 sg1 od aw tb md ql dr (n - t - 1) (n - t) (by omega) (by omega)) (cwV 2 hts gX3_note_X3_copy rfl rfl rfl (by decide +kernel) ⟨by decide, by decide⟩) hK hZ hA hP hD hS 3 3 rfl rfl rfl hl.1 rfl (Nat.le_of_ble_eq_true rfl) dX3_note_94 ⟨Nat.zero_le _, Nat.zero_le _⟩ (fun v w' H locs hp hP hD hS => ?_)
              obtain ⟨rfl, rfl⟩ := hp
              have hP : va_P G vwCl (wd a cB cI cZ gv rn lv (nI n) (upd lk1 (n - t) (lk1 (n - t - 1))) (upd ss1 (n - t) (ss1 (n - t - 1))) (upd rw1 (n - t) (rw1 (n - t - 1))) (upd sg1 (n - t) (sg1 (n - t - 1))) qc od aw tb md ql dr) H := hP
              have hD : va_D A (wd a cB cI cZ gv rn lv (nI n) (upd lk1 (n - t) (lk1 (n - t - 1))) (upd ss1 (n - t) (ss1 (n - t - 1))) (upd rw1 (n - t) (rw1 (n - t - 1))) (upd sg1 (n - t) (sg1 (n - t - 1))) qc od aw tb md ql dr) := hD
              refine W.eq (g2 := F0 m 97 ls []) rfl ?_
              refine lv_iinc (v := nI (n - (t + 1))) (lv' := [(6, .int (nI (n - (t + 1)))), (5, .int (nI i)), (0, .ref (a 3)), (1, .int x1), (2, .int x2), (3, .int x3), (4, .int x4)]) hx hb dX3_note_97 hl (k := 0) rfl (by rw [show n - t = (n - (t + 1)) + 1 by omega]; exact pk_m1 _) (by decide) rfl (fun ls hl => ?_)
              refine lv_goto (tgt := 80) hx hb dX3_note_100 (by decide) ?_
              exact ih_80 (t + 1) (upd lk1 (n - t) (lk1 (n - t - 1))) (upd ss1 (n - t) (ss1 (n - t - 1))) (upd rw1 (n - t) (rw1 (n - t - 1))) (upd sg1 (n - t) (sg1 (n - t - 1))) _ _ _ (by omega) (by omega) (by rw [fw_itS, ← hf]; rfl) hP hD hS (lv_sub hl [0, 1, 2, 3, 4, 5, 6] rfl)
        exact lp_80 _ 0 lk ss rw sg _ _ _ (Nat.lt_succ_self _) (by omega) (rfl) hP hD hS (lv_sub hl [0, 1, 2, 3, 4, 5, 6] rfl)
      · have hL : i < n := by
          have := fw_nlt c_9 (by omega) (by omega)
          omega
        refine lv_aload_n hx hb dX3_note_12 rfl (lv_at hl 1 rfl) ?_
        refine va_get (D := G) (ci := 3) (v := .ref (a 7)) (C := RX3) (T := TX3) (N := 5) hx hb hts hin3 hown hK hP 3 rfl rfl 0 (by decide) fl_9 (fun _ h9 => h9) rfl dX3_note_13 ?_
        refine lv_iload hx hb dX3_note_16 (lv_at hl 0 rfl) ?_
        refine fw_iald (j := i) (f := lk) hx hb hK hP 7 1 rfl rfl (by omega) (by decide) dX3_note_18 ?_
        refine lv_iload_n hx hb dX3_note_19 rfl (lv_at hl 2 rfl) ?_
        refine lv_icmp_gt (tgt := 62) hx hb dX3_note_20 (by decide) (fun c_20 => ?_) (fun c_20 => ?_)
        · have hpl : px_placeAt n lk rw x1 x3 i := ⟨hall, Or.inr c_20⟩
          refine lv_aload_n hx hb dX3_note_62 rfl (lv_at hl 1 rfl) ?_
          refine va_get (D := G) (ci := 3) (v := .int (nI n)) (C := RX3) (T := TX3) (N := 5) hx hb hts hin3 hown hK hP 3 rfl rfl 4 (by decide) fl_24 (fun _ h9 => h9) rfl dX3_note_63 ?_
          refine lv_sipush (v := 512) hx hb dX3_note_66 (by decide) ?_
          refine lv_icmp_lt (tgt := 74) hx hb dX3_note_69 (by decide) (fun c_69 => ?_) (fun c_69 => absurd ((nI_ltI (b := 512) (by omega) (by decide)).mpr hn5) c_69)
          refine lv_aload_n hx hb dX3_note_74 rfl (lv_at hl 1 rfl) ?_
          refine va_get (D := G) (ci := 3) (v := .int (nI n)) (C := RX3) (T := TX3) (N := 5) hx hb hts hin3 hown hK hP 3 rfl rfl 4 (by decide) fl_24 (fun _ h9 => h9) rfl dX3_note_75 ?_
          refine lv_istore (lv' := [(6, .int (nI n)), (5, .int (nI i)), (0, .ref (a 3)), (1, .int x1), (2, .int x2), (3, .int x3), (4, .int x4)]) hx hb dX3_note_78 hl (by decide) rfl (fun ls hl => ?_)
          have lp_80 : ∀ (nf : Nat) (t : Nat) (lk1 ss1 rw1 sg1 : Nat → Int32) (H : Heap) (locs : List Loc) (ls : Array Slot), n - i - t < nf → (t ≤ n - i) → ((lk1, ss1, rw1, sg1) = fw_it (px_shS n) t (lk, ss, rw, sg)) → va_P G vwCl (wd a cB cI cZ gv rn lv (nI n) lk1 ss1 rw1 sg1 qc od aw tb md ql dr) H → va_D A (wd a cB cI cZ gv rn lv (nI n) lk1 ss1 rw1 sg1 qc od aw tb md ql dr) → va_S A s.heap H locs → lv_has ls 7 [(6, .int (nI (n - t))), (5, .int (nI i)), (0, .ref (a 3)), (1, .int x1), (2, .int x2), (3, .int x3), (4, .int x4)] → W p l e rmX3_note s m args below meth c H locs 0 0 Q (F0 m 80 ls []) := by
            intro nf
            induction nf with
            | zero => intro t lk1 ss1 rw1 sg1 H locs ls h0; exact absurd h0 (Nat.not_lt_zero _)
            | succ nf_80 ih_80 =>
              intro t lk1 ss1 rw1 sg1 H locs ls hn_80 ht hf hP hD hS hl
              refine lv_iload hx hb dX3_note_80 (lv_at hl 0 rfl) ?_
              refine lv_iload hx hb dX3_note_82 (lv_at hl 1 rfl) ?_
              refine lv_icmp_le (tgt := 103) hx hb dX3_note_84 (by decide) (fun c_84 => ?_) (fun c_84 => ?_)
              · have hT : t = n - i := by
                  have := fw_nle c_84 (by omega) (by omega)
                  omega
                refine lv_aload_n hx hb dX3_note_103 rfl (lv_at hl 2 rfl) ?_
                refine va_get (D := G) (ci := 3) (v := .ref (a 7)) (C := RX3) (T := TX3) (N := 5) hx hb hts hin3 hown hK hP 3 rfl rfl 0 (by decide) fl_9 (fun _ h9 => h9) rfl dX3_note_104 ?_
                refine lv_iload hx hb dX3_note_107 (lv_at hl 1 rfl) ?_
                refine lv_iload_n hx hb dX3_note_109 rfl (lv_at hl 3 rfl) ?_
                refine fw_iast (j := i) (f := lk1) (x := x1) hx hb hK hP hD hS 7 1 rfl rfl (by omega) (by decide) dX3_note_110 (fun H locs hP hD hS => ?_)
                have hP : va_P G vwCl (wd a cB cI cZ gv rn lv (nI n) (upd lk1 i x1) ss1 rw1 sg1 qc od aw tb md ql dr) H := hP
                have hD : va_D A (wd a cB cI cZ gv rn lv (nI n) (upd lk1 i x1) ss1 rw1 sg1 qc od aw tb md ql dr) := hD
                refine lv_aload_n hx hb dX3_note_111 rfl (lv_at hl 2 rfl) ?_
                refine va_get (D := G) (ci := 3) (v := .ref (a 8)) (C := RX3) (T := TX3) (N := 5) hx hb hts hin3 hown hK hP 3 rfl rfl 1 (by decide) fl_15 (fun _ h9 => h9) rfl dX3_note_112 ?_
                refine lv_iload hx hb dX3_note_115 (lv_at hl 1 rfl) ?_
                refine lv_iload_n hx hb dX3_note_117 rfl (lv_at hl 4 rfl) ?_
                refine fw_iast (j := i) (f := ss1) (x := x2) hx hb hK hP hD hS 8 1 rfl rfl (by omega) (by decide) dX3_note_118 (fun H locs hP hD hS => ?_)
                have hP : va_P G vwCl (wd a cB cI cZ gv rn lv (nI n) (upd lk1 i x1) (upd ss1 i x2) rw1 sg1 qc od aw tb md ql dr) H := hP
                have hD : va_D A (wd a cB cI cZ gv rn lv (nI n) (upd lk1 i x1) (upd ss1 i x2) rw1 sg1 qc od aw tb md ql dr) := hD
                refine lv_aload_n hx hb dX3_note_119 rfl (lv_at hl 2 rfl) ?_
                refine va_get (D := G) (ci := 3) (v := .ref (a 9)) (C := RX3) (T := TX3) (N := 5) hx hb hts hin3 hown hK hP 3 rfl rfl 2 (by decide) fl_18 (fun _ h9 => h9) rfl dX3_note_120 ?_
                refine lv_iload hx hb dX3_note_123 (lv_at hl 1 rfl) ?_
                refine lv_iload_n hx hb dX3_note_125 rfl (lv_at hl 5 rfl) ?_
                refine fw_iast (j := i) (f := rw1) (x := x3) hx hb hK hP hD hS 9 1 rfl rfl (by omega) (by decide) dX3_note_126 (fun H locs hP hD hS => ?_)
                have hP : va_P G vwCl (wd a cB cI cZ gv rn lv (nI n) (upd lk1 i x1) (upd ss1 i x2) (upd rw1 i x3) sg1 qc od aw tb md ql dr) H := hP
                have hD : va_D A (wd a cB cI cZ gv rn lv (nI n) (upd lk1 i x1) (upd ss1 i x2) (upd rw1 i x3) sg1 qc od aw tb md ql dr) := hD
                refine lv_aload_n hx hb dX3_note_127 rfl (lv_at hl 2 rfl) ?_
                refine va_get (D := G) (ci := 3) (v := .ref (a 10)) (C := RX3) (T := TX3) (N := 5) hx hb hts hin3 hown hK hP 3 rfl rfl 3 (by decide) fl_21 (fun _ h9 => h9) rfl dX3_note_128 ?_
                refine lv_iload hx hb dX3_note_131 (lv_at hl 1 rfl) ?_
                refine lv_iload hx hb dX3_note_133 (lv_at hl 6 rfl) ?_
                refine fw_iast (j := i) (f := sg1) (x := x4) hx hb hK hP hD hS 10 1 rfl rfl (by omega) (by decide) dX3_note_135 (fun H locs hP hD hS => ?_)
                have hP : va_P G vwCl (wd a cB cI cZ gv rn lv (nI n) (upd lk1 i x1) (upd ss1 i x2) (upd rw1 i x3) (upd sg1 i x4) qc od aw tb md ql dr) H := hP
                have hD : va_D A (wd a cB cI cZ gv rn lv (nI n) (upd lk1 i x1) (upd ss1 i x2) (upd rw1 i x3) (upd sg1 i x4) qc od aw tb md ql dr) := hD
                refine lv_aload_n hx hb dX3_note_136 rfl (lv_at hl 2 rfl) ?_
                refine lv_dup hx hb dX3_note_137 rfl ?_
                refine va_get (D := G) (ci := 3) (v := .int (nI n)) (C := RX3) (T := TX3) (N := 5) hx hb hts hin3 hown hK hP 3 rfl rfl 4 (by decide) fl_24 (fun _ h9 => h9) rfl dX3_note_138 ?_
                refine lv_iconst (v := 1) hx hb dX3_note_141 (by decide) ?_
                refine lv_iadd hx hb dX3_note_142 ?_
                rw [nI_1 n]
                refine va_put (D := G) (ci := 3) (v := .int (nI (n + 1))) (ty := .int) (C := RX3) (T := TX3) (N := 5) hx hb hts hin3 tyX3 tyX3_ok nmX3 hown hK hP hD hS 3 rfl rfl 4 (by decide) fl_24 (fun _ h9 => h9) rfl (by decide +kernel) rfl rfl (Nat.le_of_ble_eq_true rfl) dX3_note_143 (fun H locs hP hD hS => ?_)
                have hP : va_P G vwCl (wd a cB cI cZ gv rn lv (nI (n + 1)) (upd lk1 i x1) (upd ss1 i x2) (upd rw1 i x3) (upd sg1 i x4) qc od aw tb md ql dr) H := hP
                have hD : va_D A (wd a cB cI cZ gv rn lv (nI (n + 1)) (upd lk1 i x1) (upd ss1 i x2) (upd rw1 i x3) (upd sg1 i x4) qc od aw tb md ql dr) := hD
                refine lv_iconst (v := 1) hx hb dX3_note_146 (by decide) ?_
                exact hri _ rfl 1 _ _ _ _ _ (by decide) (⟨rfl, Or.inr ⟨i, hi, hpl, by rw [px_sh, ← hT, ← hf]; rfl⟩⟩) hP hD hS dX3_note_147
              · have hT : t < n - i := by
                  have := fw_nlt c_84 (by omega) (by omega)
                  omega
                refine lv_aload_n hx hb dX3_note_87 rfl (lv_at hl 2 rfl) ?_
                refine lv_iload hx hb dX3_note_88 (lv_at hl 0 rfl) ?_
                refine lv_iconst (v := 1) hx hb dX3_note_90 (by decide) ?_
                refine lv_isub hx hb dX3_note_91 ?_
                rw [show nI (n - t) - 1 = nI (n - t - 1) from pk_sub (a := n - t) (b := 1) (by omega)]
                refine lv_iload hx hb dX3_note_92 (lv_at hl 0 rfl) ?_
                refine kV (As := [.int (nI (n - t - 1)), .int (nI (n - t))]) (rest := []) ⟨hx, hb, hml, hown, hts⟩ (c_X3_copy l G cB cI cZ tc a gv (nI n) qc rn lv lk1 ss1 rw1 sg1 od aw tb md ql dr (n - t - 1) (n - t) (by omega) (by omega)) (cwV 2 hts gX3_note_X3_copy rfl rfl rfl (by decide +kernel) ⟨by decide, by decide⟩) hK hZ hA hP hD hS 3 3 rfl rfl rfl hl.1 rfl (Nat.le_of_ble_eq_true rfl) dX3_note_94 ⟨Nat.zero_le _, Nat.zero_le _⟩ (fun v w' H locs hp hP hD hS => ?_)
                obtain ⟨rfl, rfl⟩ := hp
                have hP : va_P G vwCl (wd a cB cI cZ gv rn lv (nI n) (upd lk1 (n - t) (lk1 (n - t - 1))) (upd ss1 (n - t) (ss1 (n - t - 1))) (upd rw1 (n - t) (rw1 (n - t - 1))) (upd sg1 (n - t) (sg1 (n - t - 1))) qc od aw tb md ql dr) H := hP
                have hD : va_D A (wd a cB cI cZ gv rn lv (nI n) (upd lk1 (n - t) (lk1 (n - t - 1))) (upd ss1 (n - t) (ss1 (n - t - 1))) (upd rw1 (n - t) (rw1 (n - t - 1))) (upd sg1 (n - t) (sg1 (n - t - 1))) qc od aw tb md ql dr) := hD
                refine W.eq (g2 := F0 m 97 ls []) rfl ?_
                refine lv_iinc (v := nI (n - (t + 1))) (lv' := [(6, .int (nI (n - (t + 1)))), (5, .int (nI i)), (0, .ref (a 3)), (1, .int x1), (2, .int x2), (3, .int x3), (4, .int x4)]) hx hb dX3_note_97 hl (k := 0) rfl (by rw [show n - t = (n - (t + 1)) + 1 by omega]; exact pk_m1 _) (by decide) rfl (fun ls hl => ?_)
                refine lv_goto (tgt := 80) hx hb dX3_note_100 (by decide) ?_
                exact ih_80 (t + 1) (upd lk1 (n - t) (lk1 (n - t - 1))) (upd ss1 (n - t) (ss1 (n - t - 1))) (upd rw1 (n - t) (rw1 (n - t - 1))) (upd sg1 (n - t) (sg1 (n - t - 1))) _ _ _ (by omega) (by omega) (by rw [fw_itS, ← hf]; rfl) hP hD hS (lv_sub hl [0, 1, 2, 3, 4, 5, 6] rfl)
          exact lp_80 _ 0 lk ss rw sg _ _ _ (Nat.lt_succ_self _) (by omega) (rfl) hP hD hS (lv_sub hl [0, 1, 2, 3, 4, 5, 6] rfl)
        · refine lv_aload_n hx hb dX3_note_23 rfl (lv_at hl 1 rfl) ?_
          refine va_get (D := G) (ci := 3) (v := .ref (a 7)) (C := RX3) (T := TX3) (N := 5) hx hb hts hin3 hown hK hP 3 rfl rfl 0 (by decide) fl_9 (fun _ h9 => h9) rfl dX3_note_24 ?_
          refine lv_iload hx hb dX3_note_27 (lv_at hl 0 rfl) ?_
          refine fw_iald (j := i) (f := lk) hx hb hK hP 7 1 rfl rfl (by omega) (by decide) dX3_note_29 ?_
          refine lv_iload_n hx hb dX3_note_30 rfl (lv_at hl 2 rfl) ?_
          refine lv_icmp_ne (tgt := 56) hx hb dX3_note_31 (by decide) (fun c_31 => ?_) (fun c_31 => ?_)
          · refine lv_iinc (v := nI (i + 1)) (lv' := [(5, .int (nI (i + 1))), (0, .ref (a 3)), (1, .int x1), (2, .int x2), (3, .int x3), (4, .int x4)]) hx hb dX3_note_56 hl (k := 0) rfl (fw_inc _) (by decide) rfl (fun ls hl => ?_)
            refine lv_goto (tgt := 3) hx hb dX3_note_59 (by decide) ?_
            exact ih_3 (i + 1) _ _ _ (by omega) (by omega) (fun j hj => by
            rcases Nat.lt_succ_iff_lt_or_eq.mp hj with h | h
            · exact hall j h
            · subst h; exact ⟨c_20, by simp [c_31]⟩) hP hD hS (lv_sub hl [0, 1, 2, 3, 4, 5] rfl)
          · refine lv_aload_n hx hb dX3_note_34 rfl (lv_at hl 1 rfl) ?_
            refine va_get (D := G) (ci := 3) (v := .ref (a 9)) (C := RX3) (T := TX3) (N := 5) hx hb hts hin3 hown hK hP 3 rfl rfl 2 (by decide) fl_18 (fun _ h9 => h9) rfl dX3_note_35 ?_
            refine lv_iload hx hb dX3_note_38 (lv_at hl 0 rfl) ?_
            refine fw_iald (j := i) (f := rw) hx hb hK hP 9 1 rfl rfl (by omega) (by decide) dX3_note_40 ?_
            refine lv_iload_n hx hb dX3_note_41 rfl (lv_at hl 4 rfl) ?_
            refine lv_icmp_ne (tgt := 56) hx hb dX3_note_42 (by decide) (fun c_42 => ?_) (fun c_42 => ?_)
            · refine lv_iinc (v := nI (i + 1)) (lv' := [(5, .int (nI (i + 1))), (0, .ref (a 3)), (1, .int x1), (2, .int x2), (3, .int x3), (4, .int x4)]) hx hb dX3_note_56 hl (k := 0) rfl (fw_inc _) (by decide) rfl (fun ls hl => ?_)
              refine lv_goto (tgt := 3) hx hb dX3_note_59 (by decide) ?_
              exact ih_3 (i + 1) _ _ _ (by omega) (by omega) (fun j hj => by
            rcases Nat.lt_succ_iff_lt_or_eq.mp hj with h | h
            · exact hall j h
            · subst h; exact ⟨c_20, by simp [c_31, c_42]⟩) hP hD hS (lv_sub hl [0, 1, 2, 3, 4, 5] rfl)
            · refine lv_aload_n hx hb dX3_note_45 rfl (lv_at hl 1 rfl) ?_
              refine va_get (D := G) (ci := 3) (v := .ref (a 10)) (C := RX3) (T := TX3) (N := 5) hx hb hts hin3 hown hK hP 3 rfl rfl 3 (by decide) fl_21 (fun _ h9 => h9) rfl dX3_note_46 ?_
              refine lv_iload hx hb dX3_note_49 (lv_at hl 0 rfl) ?_
              refine lv_iload hx hb dX3_note_51 (lv_at hl 5 rfl) ?_
              refine fw_iast (j := i) (f := sg) (x := x4) hx hb hK hP hD hS 10 1 rfl rfl (by omega) (by decide) dX3_note_53 (fun H locs hP hD hS => ?_)
              have hP : va_P G vwCl (wd a cB cI cZ gv rn lv (nI n) lk ss rw (upd sg i x4) qc od aw tb md ql dr) H := hP
              have hD : va_D A (wd a cB cI cZ gv rn lv (nI n) lk ss rw (upd sg i x4) qc od aw tb md ql dr) := hD
              refine lv_iconst (v := 1) hx hb dX3_note_54 (by decide) ?_
              exact hri _ rfl 1 _ _ _ _ _ (by decide) (⟨rfl, Or.inl ⟨i, hL, ⟨c_31, c_42, fun j hj => (hall j hj).1⟩, rfl⟩⟩) hP hD hS dX3_note_55
  exact lp_3 _ 0 _ _ _ (Nat.lt_succ_self _) (by omega) (fun j hj => absurd hj (Nat.not_lt_zero _)) hP hD hS (lv_sub hl [0, 1, 2, 3, 4, 5] rfl)
