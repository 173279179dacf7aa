abbrev rmX2_size : Room := { frames := 0, cells := 0, slots := 0, locals := 0 }
set_option maxHeartbeats 4000000 in
set_option maxRecDepth 100000 in
theorem c_X2_size (l : Launch) (G : va_G) (cB cI cZ : ClassId) (tc : Nat) (a : Nat → Nat) (gv rc : Int32) (rn lv lk ss rw sg od aw tb md ql dr : Nat → Int32) (n : Nat)  : KC l yX2_size wsX2_size rmX2_size G [(cB, .byte), (cI, .int), (cZ, .boolean)] tc [.ref (a 4)] (wd a cB cI cZ gv rn lv rc lk ss rw sg (nI n) od aw tb md ql dr) (fun v w' => v = some (.int (nI n)) ∧ w' = (wd a cB cI cZ gv rn lv rc lk ss rw sg (nI n) od aw tb md ql dr)) := by
  refine KC.of (cc := cX2_size) (maxL := 1) (ret := some .int) (by decide) rfl (Nat.le_of_ble_eq_true rfl) ?_
  intro p e s m below meth c args A Q ls hx hb hml hown hts hK hZ hA hP hD hS hl hri hrv
  have hown : s.vm.findClass RX2 = some m.cls := hown
  have hl : lv_has ls 1 [(0, .ref (a 4))] := hl
  have fl_15 := hts (.fieldLink RX2 15 "LockDesk$Queue" "count" "I") (by decide +kernel)
  have hin2 : ∀ w ∈ wsX20, w ∈ wsX2_size := by decide +kernel
  refine lv_aload_n hx hb dX2_size_0 rfl (lv_at hl 0 rfl) ?_
  refine va_get (D := G) (ci := 2) (v := .int (nI n)) (C := RX2) (T := TX2) (N := 7) hx hb hts hin2 hown hK hP 4 rfl rfl 1 (by decide) fl_15 (fun _ h9 => h9) rfl dX2_size_1 ?_
  exact hri _ rfl (nI n) _ _ _ _ _ (rfl) (⟨rfl, rfl⟩) hP hD hS dX2_size_4

abbrev rmX2_sessionAt : Room := { frames := 0, cells := 0, slots := 0, locals := 0 }
set_option maxHeartbeats 4000000 in
set_option maxRecDepth 100000 in
theorem c_X2_sessionAt (l : Launch) (G : va_G) (cB cI cZ : ClassId) (tc : Nat) (a : Nat → Nat) (gv rc : Int32) (rn lv lk ss rw sg od aw tb md ql dr : Nat → Int32) (n : Nat) (x1 : Int32) (hn6 : n ≤ 6) : KC l yX2_sessionAt wsX2_sessionAt rmX2_sessionAt G [(cB, .byte), (cI, .int), (cZ, .boolean)] tc [.ref (a 4), .int x1] (wd a cB cI cZ gv rn lv rc lk ss rw sg (nI n) od aw tb md ql dr) (fun v w' => v = some (.int (px_at n od x1)) ∧ w' = (wd a cB cI cZ gv rn lv rc lk ss rw sg (nI n) od aw tb md ql dr)) := by
  refine KC.of (cc := cX2_sessionAt) (maxL := 2) (ret := some .int) (by decide) rfl (Nat.le_of_ble_eq_true rfl) ?_
  intro p e s m below meth c args A Q ls hx hb hml hown hts hK hZ hA hP hD hS hl hri hrv
  have hown : s.vm.findClass RX2 = some m.cls := hown
  have hl : lv_has ls 2 [(0, .ref (a 4)), (1, .int x1)] := hl
  have fl_9 := hts (.fieldLink RX2 9 "LockDesk$Queue" "order" "[I") (by decide +kernel)
  have fl_15 := hts (.fieldLink RX2 15 "LockDesk$Queue" "count" "I") (by decide +kernel)
  have hin2 : ∀ w ∈ wsX20, w ∈ wsX2_sessionAt := by decide +kernel
  refine lv_iload_n hx hb dX2_sessionAt_0 rfl (lv_at hl 1 rfl) ?_
  refine lv_if_lt (tgt := 21) hx hb dX2_sessionAt_1 (by decide) (fun c_1 => ?_) (fun c_1 => ?_)
  · refine lv_iconst (v := (-1)) hx hb dX2_sessionAt_21 (by decide) ?_
    exact hri _ rfl (-1) _ _ _ _ _ (rfl) (⟨by rw [px_at, if_pos c_1], rfl⟩) hP hD hS dX2_sessionAt_22
  · refine lv_iload_n hx hb dX2_sessionAt_4 rfl (lv_at hl 1 rfl) ?_
    refine lv_aload_n hx hb dX2_sessionAt_5 rfl (lv_at hl 0 rfl) ?_
    refine va_get (D := G) (ci := 2) (v := .int (nI n)) (C := RX2) (T := TX2) (N := 7) hx hb hts hin2 hown hK hP 4 rfl rfl 1 (by decide) fl_15 (fun _ h9 => h9) rfl dX2_sessionAt_6 ?_
    refine lv_icmp_ge (tgt := 21) hx hb dX2_sessionAt_9 (by decide) (fun c_9 => ?_) (fun c_9 => ?_)
    · refine lv_iconst (v := (-1)) hx hb dX2_sessionAt_21 (by decide) ?_
      exact hri _ rfl (-1) _ _ _ _ _ (rfl) (⟨by rw [px_at, if_neg c_1, if_pos c_9], rfl⟩) hP hD hS dX2_sessionAt_22
    · obtain ⟨k, hk, rfl⟩ := px_rng (by omega) c_1 c_9
      refine lv_aload_n hx hb dX2_sessionAt_12 rfl (lv_at hl 0 rfl) ?_
      refine va_get (D := G) (ci := 2) (v := .ref (a 11)) (C := RX2) (T := TX2) (N := 7) hx hb hts hin2 hown hK hP 4 rfl rfl 0 (by decide) fl_9 (fun _ h9 => h9) rfl dX2_sessionAt_13 ?_
      refine lv_iload_n hx hb dX2_sessionAt_16 rfl (lv_at hl 1 rfl) ?_
      refine fw_iald (j := k) (f := od) hx hb hK hP 11 1 rfl rfl (by omega) (by decide) dX2_sessionAt_17 ?_
      refine lv_goto (tgt := 22) hx hb dX2_sessionAt_18 (by decide) ?_
      exact hri _ rfl (od k) _ _ _ _ _ (rfl) (⟨by rw [px_at, if_neg c_1, if_neg c_9, nI_clamp (by omega)], rfl⟩) hP hD hS dX2_sessionAt_22

abbrev rmX2_placeOf : Room := { frames := 0, cells := 0, slots := 0, locals := 0 }
set_option maxHeartbeats 4000000 in
set_option maxRecDepth 100000 in
theorem c_X2_placeOf (l : Launch) (G : va_G) (cB cI cZ : ClassId) (tc : Nat) (a : Nat → Nat) (gv rc : Int32) (rn lv lk ss rw sg od aw tb md ql dr : Nat → Int32) (n : Nat) (x1 : Int32) (hn6 : n ≤ 6) : KC l yX2_placeOf wsX2_placeOf rmX2_placeOf G [(cB, .byte), (cI, .int), (cZ, .boolean)] tc [.ref (a 4), .int x1] (wd a cB cI cZ gv rn lv rc lk ss rw sg (nI n) od aw tb md ql dr) (fun v w' => v = some (.int (px_ix (px_pl n od x1))) ∧ w' = (wd a cB cI cZ gv rn lv rc lk ss rw sg (nI n) od aw tb md ql dr)) := by
  refine KC.of (cc := cX2_placeOf) (maxL := 3) (ret := some .int) (by decide) rfl (Nat.le_of_ble_eq_true rfl) ?_
  intro p e s m below meth c args A Q ls hx hb hml hown hts hK hZ hA hP hD hS hl hri hrv
  have hown : s.vm.findClass RX2 = some m.cls := hown
  have hl : lv_has ls 3 [(0, .ref (a 4)), (1, .int x1)] := hl
  have fl_9 := hts (.fieldLink RX2 9 "LockDesk$Queue" "order" "[I") (by decide +kernel)
  have fl_15 := hts (.fieldLink RX2 15 "LockDesk$Queue" "count" "I") (by decide +kernel)
  have hin2 : ∀ w ∈ wsX20, w ∈ wsX2_placeOf := by decide +kernel
  refine lv_iconst (v := 0) hx hb dX2_placeOf_0 (by decide) ?_
  refine lv_istore_n (lv' := [(2, .int 0), (0, .ref (a 4)), (1, .int x1)]) hx hb dX2_placeOf_1 rfl hl (by decide) rfl (fun ls hl => ?_)
  have lp_2 : ∀ (nf : Nat) (i : Nat) (H : Heap) (locs : List Loc) (ls : Array Slot), n - i < nf → (i ≤ n) → (px_fst (fun k => decide (od k = x1)) i = none) → va_P G vwCl (wd a cB cI cZ gv rn lv rc lk ss rw sg (nI n) od aw tb md ql dr) H → va_D A (wd a cB cI cZ gv rn lv rc lk ss rw sg (nI n) od aw tb md ql dr) → va_S A s.heap H locs → lv_has ls 3 [(2, .int (nI i)), (0, .ref (a 4)), (1, .int x1)] → W p l e rmX2_placeOf s m args below meth c H locs 0 0 Q (F0 m 2 ls []) := by
    intro nf
    induction nf with
    | zero => intro i H locs ls h0; exact absurd h0 (Nat.not_lt_zero _)
    | succ nf_2 ih_2 =>
      intro i H locs ls hn_2 hi hno hP hD hS hl
      refine lv_iload_n hx hb dX2_placeOf_2 rfl (lv_at hl 0 rfl) ?_
      refine lv_aload_n hx hb dX2_placeOf_3 rfl (lv_at hl 1 rfl) ?_
      refine va_get (D := G) (ci := 2) (v := .int (nI n)) (C := RX2) (T := TX2) (N := 7) hx hb hts hin2 hown hK hP 4 rfl rfl 1 (by decide) fl_15 (fun _ h9 => h9) rfl dX2_placeOf_4 ?_
      refine lv_icmp_ge (tgt := 28) hx hb dX2_placeOf_7 (by decide) (fun c_7 => ?_) (fun c_7 => ?_)
      · have hE : i = n := by
          have := fw_nle c_7 (by omega) (by omega)
          omega
        refine lv_iconst (v := (-1)) hx hb dX2_placeOf_28 (by decide) ?_
        exact hri _ rfl (-1) _ _ _ _ _ (rfl) (⟨by rw [px_pl, ← hE, hno]; rfl, rfl⟩) hP hD hS dX2_placeOf_29
      · have hL : i < n := by
          have := fw_nlt c_7 (by omega) (by omega)
          omega
        refine lv_aload_n hx hb dX2_placeOf_10 rfl (lv_at hl 1 rfl) ?_
        refine va_get (D := G) (ci := 2) (v := .ref (a 11)) (C := RX2) (T := TX2) (N := 7) hx hb hts hin2 hown hK hP 4 rfl rfl 0 (by decide) fl_9 (fun _ h9 => h9) rfl dX2_placeOf_11 ?_
        refine lv_iload_n hx hb dX2_placeOf_14 rfl (lv_at hl 0 rfl) ?_
        refine fw_iald (j := i) (f := od) hx hb hK hP 11 1 rfl rfl (by omega) (by decide) dX2_placeOf_15 ?_
        refine lv_iload_n hx hb dX2_placeOf_16 rfl (lv_at hl 2 rfl) ?_
        refine lv_icmp_ne (tgt := 22) hx hb dX2_placeOf_17 (by decide) (fun c_17 => ?_) (fun c_17 => ?_)
        · refine lv_iinc (v := nI (i + 1)) (lv' := [(2, .int (nI (i + 1))), (0, .ref (a 4)), (1, .int x1)]) hx hb dX2_placeOf_22 hl (k := 0) rfl (fw_inc _) (by decide) rfl (fun ls hl => ?_)
          refine lv_goto (tgt := 2) hx hb dX2_placeOf_25 (by decide) ?_
          exact ih_2 (i + 1) _ _ _ (by omega) (by omega) (px_fstS hno (by simp [c_17])) hP hD hS (lv_sub hl [0, 1, 2] rfl)
        · refine lv_iload_n hx hb dX2_placeOf_20 rfl (lv_at hl 0 rfl) ?_
          exact hri _ rfl (nI i) _ _ _ _ _ (rfl) (⟨by rw [px_pl, px_fstT hno (by simp [c_17]) hL]; rfl, rfl⟩) hP hD hS dX2_placeOf_21
  exact lp_2 _ 0 _ _ _ (Nat.lt_succ_self _) (by omega) (rfl) hP hD hS (lv_sub hl [0, 1, 2] rfl)

abbrev rmX2_contains : Room := { frames := 1, cells := 0, slots := 0, locals := 22 }
set_option maxHeartbeats 4000000 in
set_option maxRecDepth 100000 in
theorem c_X2_contains (l : Launch) (G : va_G) (cB cI cZ : ClassId) (tc : Nat) (a : Nat → Nat) (gv rc : Int32) (rn lv lk ss rw sg od aw tb md ql dr : Nat → Int32) (n : Nat) (x1 : Int32) (hn6 : n ≤ 6) : KC l yX2_contains wsX2_contains rmX2_contains G [(cB, .byte), (cI, .int), (cZ, .boolean)] tc [.ref (a 4), .int x1] (wd a cB cI cZ gv rn lv rc lk ss rw sg (nI n) od aw tb md ql dr) (fun v w' => v = some (.int (fw_b (px_pl n od x1).isSome)) ∧ w' = (wd a cB cI cZ gv rn lv rc lk ss rw sg (nI n) od aw tb md ql dr)) := by
  refine KC.of (cc := cX2_contains) (maxL := 2) (ret := some .boolean) (by decide) rfl (Nat.le_of_ble_eq_true rfl) ?_
  intro p e s m below meth c args A Q ls hx hb hml hown hts hK hZ hA hP hD hS hl hri hrv
  have hown : s.vm.findClass RX2 = some m.cls := hown
  have hl : lv_has ls 2 [(0, .ref (a 4)), (1, .int x1)] := hl
  refine lv_aload_n hx hb dX2_contains_0 rfl (lv_at hl 0 rfl) ?_
  refine lv_iload_n hx hb dX2_contains_1 rfl (lv_at hl 1 rfl) ?_
  refine kV (As := [.int x1]) (rest := []) ⟨hx, hb, hml, hown, hts⟩ (c_X2_placeOf l G cB cI cZ tc a gv rc rn lv lk ss rw sg od aw tb md ql dr n x1 hn6) (cwV 1 hts gX2_contains_X2_placeOf rfl rfl rfl (by decide +kernel) ⟨by decide, by decide⟩) hK hZ hA hP hD hS 4 2 rfl rfl rfl hl.1 rfl (Nat.le_of_ble_eq_true rfl) dX2_contains_2 ⟨Nat.zero_le _, Nat.zero_le _⟩ (fun v w' H locs hp hP hD hS => ?_)
  obtain ⟨rfl, rfl⟩ := hp
  have hP : va_P G vwCl (wd a cB cI cZ gv rn lv rc lk ss rw sg (nI n) od aw tb md ql dr) H := hP
  have hD : va_D A (wd a cB cI cZ gv rn lv rc lk ss rw sg (nI n) od aw tb md ql dr) := hD
  refine W.eq (g2 := F0 m 5 ls [.int (px_ix (px_pl n od x1))]) rfl ?_
  refine lv_iconst (v := (-1)) hx hb dX2_contains_5 (by decide) ?_
  refine lv_icmp_eq (tgt := 13) hx hb dX2_contains_6 (by decide) (fun c_6 => ?_) (fun c_6 => ?_)
  · have c_6 : px_pl n od x1 = none := px_ix_none hn6 c_6
    refine lv_iconst (v := 0) hx hb dX2_contains_13 (by decide) ?_
    exact hri _ rfl 0 _ _ _ _ _ (by decide) (⟨by rw [c_6]; rfl, rfl⟩) hP hD hS dX2_contains_14
  · obtain ⟨k, c_6⟩ := px_ix_some c_6
    have c_6 : px_pl n od x1 = some k := c_6
    refine lv_iconst (v := 1) hx hb dX2_contains_9 (by decide) ?_
    refine lv_goto (tgt := 14) hx hb dX2_contains_10 (by decide) ?_
    exact hri _ rfl 1 _ _ _ _ _ (by decide) (⟨by rw [c_6]; rfl, rfl⟩) hP hD hS dX2_contains_14

abbrev rmX2_append : Room := { frames := 0, cells := 0, slots := 0, locals := 0 }
set_option maxHeartbeats 4000000 in
set_option maxRecDepth 100000 in
theorem c_X2_append (l : Launch) (G : va_G) (cB cI cZ : ClassId) (tc : Nat) (a : Nat → Nat) (gv rc : Int32) (rn lv lk ss rw sg od aw tb md ql dr : Nat → Int32) (n : Nat) (x1 : Int32) (hn6 : n < 6) : KC l yX2_append wsX2_append rmX2_append G [(cB, .byte), (cI, .int), (cZ, .boolean)] tc [.ref (a 4), .int x1] (wd a cB cI cZ gv rn lv rc lk ss rw sg (nI n) od aw tb md ql dr) (fun v w' => v = none ∧ w' = (wd a cB cI cZ gv rn lv rc lk ss rw sg (nI (n + 1)) (upd od n x1) aw tb md ql dr)) := by
  refine KC.of (cc := cX2_append) (maxL := 2) (ret := none) (by decide) rfl (Nat.le_of_ble_eq_true rfl) ?_
  intro p e s m below meth c args A Q ls hx hb hml hown hts hK hZ hA hP hD hS hl hri hrv
  have hown : s.vm.findClass RX2 = some m.cls := hown
  have hl : lv_has ls 2 [(0, .ref (a 4)), (1, .int x1)] := hl
  have fl_9 := hts (.fieldLink RX2 9 "LockDesk$Queue" "order" "[I") (by decide +kernel)
  have fl_15 := hts (.fieldLink RX2 15 "LockDesk$Queue" "count" "I") (by decide +kernel)
  have hin2 : ∀ w ∈ wsX20, w ∈ wsX2_append := by decide +kernel
  refine lv_aload_n hx hb dX2_append_0 rfl (lv_at hl 0 rfl) ?_
  refine va_get (D := G) (ci := 2) (v := .int (nI n)) (C := RX2) (T := TX2) (N := 7) hx hb hts hin2 hown hK hP 4 rfl rfl 1 (by decide) fl_15 (fun _ h9 => h9) rfl dX2_append_1 ?_
  refine lv_bipush (v := 6) hx hb dX2_append_4 (by decide) ?_
  refine lv_icmp_ge (tgt := 29) hx hb dX2_append_6 (by decide) (fun c_6 => False.elim (by have := fw_nle (a := 6) c_6 (by omega) (by omega); omega)) (fun c_6 => ?_)
  refine lv_aload_n hx hb dX2_append_9 rfl (lv_at hl 0 rfl) ?_
  refine va_get (D := G) (ci := 2) (v := .ref (a 11)) (C := RX2) (T := TX2) (N := 7) hx hb hts hin2 hown hK hP 4 rfl rfl 0 (by decide) fl_9 (fun _ h9 => h9) rfl dX2_append_10 ?_
  refine lv_aload_n hx hb dX2_append_13 rfl (lv_at hl 0 rfl) ?_
  refine va_get (D := G) (ci := 2) (v := .int (nI n)) (C := RX2) (T := TX2) (N := 7) hx hb hts hin2 hown hK hP 4 rfl rfl 1 (by decide) fl_15 (fun _ h9 => h9) rfl dX2_append_14 ?_
  refine lv_iload_n hx hb dX2_append_17 rfl (lv_at hl 1 rfl) ?_
  refine fw_iast (j := n) (f := od) (x := x1) hx hb hK hP hD hS 11 1 rfl rfl (by omega) (by decide) dX2_append_18 (fun H locs hP hD hS => ?_)
  have hP : va_P G vwCl (wd a cB cI cZ gv rn lv rc lk ss rw sg (nI n) (upd od n x1) aw tb md ql dr) H := hP
  have hD : va_D A (wd a cB cI cZ gv rn lv rc lk ss rw sg (nI n) (upd od n x1) aw tb md ql dr) := hD
  refine lv_aload_n hx hb dX2_append_19 rfl (lv_at hl 0 rfl) ?_
  refine lv_dup hx hb dX2_append_20 rfl ?_
  refine va_get (D := G) (ci := 2) (v := .int (nI n)) (C := RX2) (T := TX2) (N := 7) hx hb hts hin2 hown hK hP 4 rfl rfl 1 (by decide) fl_15 (fun _ h9 => h9) rfl dX2_append_21 ?_
  refine lv_iconst (v := 1) hx hb dX2_append_24 (by decide) ?_
  refine lv_iadd hx hb dX2_append_25 ?_
  rw [nI_1 n]
  refine va_put (D := G) (ci := 2) (v := .int (nI (n + 1))) (ty := .int) (C := RX2) (T := TX2) (N := 7) hx hb hts hin2 tyX2 tyX2_ok nmX2 hown hK hP hD hS 4 rfl rfl 1 (by decide) fl_15 (fun _ h9 => h9) rfl (by decide +kernel) rfl rfl (Nat.le_of_ble_eq_true rfl) dX2_append_26 (fun H locs hP hD hS => ?_)
  have hP : va_P G vwCl (wd a cB cI cZ gv rn lv rc lk ss rw sg (nI (n + 1)) (upd od n x1) aw tb md ql dr) H := hP
  have hD : va_D A (wd a cB cI cZ gv rn lv rc lk ss rw sg (nI (n + 1)) (upd od n x1) aw tb md ql dr) := hD
  exact hrv rfl _ _ _ _ _ (⟨rfl, rfl⟩) hP hD hS dX2_append_29

abbrev rmX2_addForTable : Room := { frames := 1, cells := 0, slots := 0, locals := 21 }
set_option maxHeartbeats 4000000 in
set_option maxRecDepth 100000 in
theorem c_X2_addForTable (l : Launch) (G : va_G) (cB cI cZ : ClassId) (tc : Nat) (a : Nat → Nat) (gv rc : Int32) (rn lv lk ss rw sg od aw tb md ql dr : Nat → Int32) (n : Nat) (x : Nat) (x2 : Int32) (x3 : Int32) (x4 : Int32) (hn6 : n < 6) (hx6 : x < 6) : KC l yX2_addForTable wsX2_addForTable rmX2_addForTable G [(cB, .byte), (cI, .int), (cZ, .boolean)] tc [.ref (a 4), .int (nI x), .int x2, .int x3, .int x4] (wd a cB cI cZ gv rn lv rc lk ss rw sg (nI n) od aw tb md ql dr) (fun v w' => v = none ∧ w' = (wd a cB cI cZ gv rn lv rc lk ss rw sg (nI (n + 1)) (upd od n (nI x)) (upd aw x 0) (upd tb x x3) (upd md x x4) (upd ql x x2) (upd dr x 0))) := by
  refine KC.of (cc := cX2_addForTable) (maxL := 5) (ret := none) (by decide) rfl (Nat.le_of_ble_eq_true rfl) ?_
  intro p e s m below meth c args A Q ls hx hb hml hown hts hK hZ hA hP hD hS hl hri hrv
  have hown : s.vm.findClass RX2 = some m.cls := hown
  have hl : lv_has ls 5 [(0, .ref (a 4)), (1, .int (nI x)), (2, .int x2), (3, .int x3), (4, .int x4)] := hl
  have fl_19 := hts (.fieldLink RX2 19 "LockDesk$Queue" "awaited" "[I") (by decide +kernel)
  have fl_22 := hts (.fieldLink RX2 22 "LockDesk$Queue" "tables" "[I") (by decide +kernel)
  have fl_25 := hts (.fieldLink RX2 25 "LockDesk$Queue" "modes" "[I") (by decide +kernel)
  have fl_28 := hts (.fieldLink RX2 28 "LockDesk$Queue" "levels" "[I") (by decide +kernel)
  have fl_31 := hts (.fieldLink RX2 31 "LockDesk$Queue" "dropped" "[Z") (by decide +kernel)
  have hin2 : ∀ w ∈ wsX20, w ∈ wsX2_addForTable := by decide +kernel
  refine lv_aload_n hx hb dX2_addForTable_0 rfl (lv_at hl 0 rfl) ?_
  refine va_get (D := G) (ci := 2) (v := .ref (a 12)) (C := RX2) (T := TX2) (N := 7) hx hb hts hin2 hown hK hP 4 rfl rfl 2 (by decide) fl_19 (fun _ h9 => h9) rfl dX2_addForTable_1 ?_
  refine lv_iload_n hx hb dX2_addForTable_4 rfl (lv_at hl 1 rfl) ?_
  refine lv_iconst (v := 0) hx hb dX2_addForTable_5 (by decide) ?_
  refine fw_iast (j := x) (f := aw) (x := 0) hx hb hK hP hD hS 12 1 rfl rfl (by omega) (by decide) dX2_addForTable_6 (fun H locs hP hD hS => ?_)
  have hP : va_P G vwCl (wd a cB cI cZ gv rn lv rc lk ss rw sg (nI n) od (upd aw x 0) tb md ql dr) H := hP
  have hD : va_D A (wd a cB cI cZ gv rn lv rc lk ss rw sg (nI n) od (upd aw x 0) tb md ql dr) := hD
  refine lv_aload_n hx hb dX2_addForTable_7 rfl (lv_at hl 0 rfl) ?_
  refine va_get (D := G) (ci := 2) (v := .ref (a 13)) (C := RX2) (T := TX2) (N := 7) hx hb hts hin2 hown hK hP 4 rfl rfl 3 (by decide) fl_22 (fun _ h9 => h9) rfl dX2_addForTable_8 ?_
  refine lv_iload_n hx hb dX2_addForTable_11 rfl (lv_at hl 1 rfl) ?_
  refine lv_iload_n hx hb dX2_addForTable_12 rfl (lv_at hl 3 rfl) ?_
  refine fw_iast (j := x) (f := tb) (x := x3) hx hb hK hP hD hS 13 1 rfl rfl (by omega) (by decide) dX2_addForTable_13 (fun H locs hP hD hS => ?_)
  have hP : va_P G vwCl (wd a cB cI cZ gv rn lv rc lk ss rw sg (nI n) od (upd aw x 0) (upd tb x x3) md ql dr) H := hP
  have hD : va_D A (wd a cB cI cZ gv rn lv rc lk ss rw sg (nI n) od (upd aw x 0) (upd tb x x3) md ql dr) := hD
  refine lv_aload_n hx hb dX2_addForTable_14 rfl (lv_at hl 0 rfl) ?_
  refine va_get (D := G) (ci := 2) (v := .ref (a 14)) (C := RX2) (T := TX2) (N := 7) hx hb hts hin2 hown hK hP 4 rfl rfl 4 (by decide) fl_25 (fun _ h9 => h9) rfl dX2_addForTable_15 ?_
  refine lv_iload_n hx hb dX2_addForTable_18 rfl (lv_at hl 1 rfl) ?_
  refine lv_iload hx hb dX2_addForTable_19 (lv_at hl 4 rfl) ?_
  refine fw_iast (j := x) (f := md) (x := x4) hx hb hK hP hD hS 14 1 rfl rfl (by omega) (by decide) dX2_addForTable_21 (fun H locs hP hD hS => ?_)
  have hP : va_P G vwCl (wd a cB cI cZ gv rn lv rc lk ss rw sg (nI n) od (upd aw x 0) (upd tb x x3) (upd md x x4) ql dr) H := hP
  have hD : va_D A (wd a cB cI cZ gv rn lv rc lk ss rw sg (nI n) od (upd aw x 0) (upd tb x x3) (upd md x x4) ql dr) := hD
  refine lv_aload_n hx hb dX2_addForTable_22 rfl (lv_at hl 0 rfl) ?_
  refine va_get (D := G) (ci := 2) (v := .ref (a 15)) (C := RX2) (T := TX2) (N := 7) hx hb hts hin2 hown hK hP 4 rfl rfl 5 (by decide) fl_28 (fun _ h9 => h9) rfl dX2_addForTable_23 ?_
  refine lv_iload_n hx hb dX2_addForTable_26 rfl (lv_at hl 1 rfl) ?_
  refine lv_iload_n hx hb dX2_addForTable_27 rfl (lv_at hl 2 rfl) ?_
  refine fw_iast (j := x) (f := ql) (x := x2) hx hb hK hP hD hS 15 1 rfl rfl (by omega) (by decide) dX2_addForTable_28 (fun H locs hP hD hS => ?_)
  have hP : va_P G vwCl (wd a cB cI cZ gv rn lv rc lk ss rw sg (nI n) od (upd aw x 0) (upd tb x x3) (upd md x x4) (upd ql x x2) dr) H := hP
  have hD : va_D A (wd a cB cI cZ gv rn lv rc lk ss rw sg (nI n) od (upd aw x 0) (upd tb x x3) (upd md x x4) (upd ql x x2) dr) := hD
  refine lv_aload_n hx hb dX2_addForTable_29 rfl (lv_at hl 0 rfl) ?_
  refine va_get (D := G) (ci := 2) (v := .ref (a 16)) (C := RX2) (T := TX2) (N := 7) hx hb hts hin2 hown hK hP 4 rfl rfl 6 (by decide) fl_31 (fun _ h9 => h9) rfl dX2_addForTable_30 ?_
  refine lv_iload_n hx hb dX2_addForTable_33 rfl (lv_at hl 1 rfl) ?_
  refine lv_iconst (v := 0) hx hb dX2_addForTable_34 (by decide) ?_
  refine fw_zast (j := x) (f := dr) (x := 0) hx hb hK hP hD hS 16 2 rfl rfl (by omega) (by decide) (by decide) dX2_addForTable_35 (fun H locs hP hD hS => ?_)
  have hP : va_P G vwCl (wd a cB cI cZ gv rn lv rc lk ss rw sg (nI n) od (upd aw x 0) (upd tb x x3) (upd md x x4) (upd ql x x2) (upd dr x 0)) H := hP
  have hD : va_D A (wd a cB cI cZ gv rn lv rc lk ss rw sg (nI n) od (upd aw x 0) (upd tb x x3) (upd md x x4) (upd ql x x2) (upd dr x 0)) := hD
  refine lv_aload_n hx hb dX2_addForTable_36 rfl (lv_at hl 0 rfl) ?_
  refine lv_iload_n hx hb dX2_addForTable_37 rfl (lv_at hl 1 rfl) ?_
  refine kV (As := [.int (nI x)]) (rest := []) ⟨hx, hb, hml, hown, hts⟩ (c_X2_append l G cB cI cZ tc a gv rc rn lv lk ss rw sg od (upd aw x 0) (upd tb x x3) (upd md x x4) (upd ql x x2) (upd dr x 0) n (nI x) hn6) (cwV 1 hts gX2_addForTable_X2_append rfl rfl rfl (by decide +kernel) ⟨by decide, by decide⟩) hK hZ hA hP hD hS 4 2 rfl rfl rfl hl.1 rfl (Nat.le_of_ble_eq_true rfl) dX2_addForTable_38 ⟨Nat.zero_le _, Nat.zero_le _⟩ (fun v w' H locs hp hP hD hS => ?_)
  obtain ⟨rfl, rfl⟩ := hp
  have hP : va_P G vwCl (wd a cB cI cZ gv rn lv rc lk ss rw sg (nI (n + 1)) (upd od n (nI x)) (upd aw x 0) (upd tb x x3) (upd md x x4) (upd ql x x2) (upd dr x 0)) H := hP
  have hD : va_D A (wd a cB cI cZ gv rn lv rc lk ss rw sg (nI (n + 1)) (upd od n (nI x)) (upd aw x 0) (upd tb x x3) (upd md x x4) (upd ql x x2) (upd dr x 0)) := hD
  refine W.eq (g2 := F0 m 41 ls []) rfl ?_
  exact hrv rfl _ _ _ _ _ (⟨rfl, rfl⟩) hP hD hS dX2_addForTable_41

abbrev rmX2_addForNumber : Room := { frames := 1, cells := 0, slots := 0, locals := 21 }
set_option maxHeartbeats 4000000 in
set_option maxRecDepth 100000 in
theorem c_X2_addForNumber (l : Launch) (G : va_G) (cB cI cZ : ClassId) (tc : Nat) (a : Nat → Nat) (gv rc : Int32) (rn lv lk ss rw sg od aw tb md ql dr : Nat → Int32) (n : Nat) (x : Nat) (x2 : Int32) (hn6 : n < 6) (hx6 : x < 6) : KC l yX2_addForNumber wsX2_addForNumber rmX2_addForNumber G [(cB, .byte), (cI, .int), (cZ, .boolean)] tc [.ref (a 4), .int (nI x), .int x2] (wd a cB cI cZ gv rn lv rc lk ss rw sg (nI n) od aw tb md ql dr) (fun v w' => v = none ∧ w' = (wd a cB cI cZ gv rn lv rc lk ss rw sg (nI (n + 1)) (upd od n (nI x)) (upd aw x x2) tb md ql dr)) := by
  refine KC.of (cc := cX2_addForNumber) (maxL := 3) (ret := none) (by decide) rfl (Nat.le_of_ble_eq_true rfl) ?_
  intro p e s m below meth c args A Q ls hx hb hml hown hts hK hZ hA hP hD hS hl hri hrv
  have hown : s.vm.findClass RX2 = some m.cls := hown
  have hl : lv_has ls 3 [(0, .ref (a 4)), (1, .int (nI x)), (2, .int x2)] := hl
  have fl_19 := hts (.fieldLink RX2 19 "LockDesk$Queue" "awaited" "[I") (by decide +kernel)
  have hin2 : ∀ w ∈ wsX20, w ∈ wsX2_addForNumber := by decide +kernel
  refine lv_aload_n hx hb dX2_addForNumber_0 rfl (lv_at hl 0 rfl) ?_
  refine va_get (D := G) (ci := 2) (v := .ref (a 12)) (C := RX2) (T := TX2) (N := 7) hx hb hts hin2 hown hK hP 4 rfl rfl 2 (by decide) fl_19 (fun _ h9 => h9) rfl dX2_addForNumber_1 ?_
  refine lv_iload_n hx hb dX2_addForNumber_4 rfl (lv_at hl 1 rfl) ?_
  refine lv_iload_n hx hb dX2_addForNumber_5 rfl (lv_at hl 2 rfl) ?_
  refine fw_iast (j := x) (f := aw) (x := x2) hx hb hK hP hD hS 12 1 rfl rfl (by omega) (by decide) dX2_addForNumber_6 (fun H locs hP hD hS => ?_)
  have hP : va_P G vwCl (wd a cB cI cZ gv rn lv rc lk ss rw sg (nI n) od (upd aw x x2) tb md ql dr) H := hP
  have hD : va_D A (wd a cB cI cZ gv rn lv rc lk ss rw sg (nI n) od (upd aw x x2) tb md ql dr) := hD
  refine lv_aload_n hx hb dX2_addForNumber_7 rfl (lv_at hl 0 rfl) ?_
  refine lv_iload_n hx hb dX2_addForNumber_8 rfl (lv_at hl 1 rfl) ?_
  refine kV (As := [.int (nI x)]) (rest := []) ⟨hx, hb, hml, hown, hts⟩ (c_X2_append l G cB cI cZ tc a gv rc rn lv lk ss rw sg od (upd aw x x2) tb md ql dr n (nI x) hn6) (cwV 1 hts gX2_addForNumber_X2_append rfl rfl rfl (by decide +kernel) ⟨by decide, by decide⟩) hK hZ hA hP hD hS 4 2 rfl rfl rfl hl.1 rfl (Nat.le_of_ble_eq_true rfl) dX2_addForNumber_9 ⟨Nat.zero_le _, Nat.zero_le _⟩ (fun v w' H locs hp hP hD hS => ?_)
  obtain ⟨rfl, rfl⟩ := hp
  have hP : va_P G vwCl (wd a cB cI cZ gv rn lv rc lk ss rw sg (nI (n + 1)) (upd od n (nI x)) (upd aw x x2) tb md ql dr) H := hP
  have hD : va_D A (wd a cB cI cZ gv rn lv rc lk ss rw sg (nI (n + 1)) (upd od n (nI x)) (upd aw x x2) tb md ql dr) := hD
  refine W.eq (g2 := F0 m 12 ls []) rfl ?_
  exact hrv rfl _ _ _ _ _ (⟨rfl, rfl⟩) hP hD hS dX2_addForNumber_12

abbrev rmX2_remove : Room := { frames := 0, cells := 0, slots := 0, locals := 0 }
set_option maxHeartbeats 4000000 in
set_option maxRecDepth 100000 in
theorem c_X2_remove (l : Launch) (G : va_G) (cB cI cZ : ClassId) (tc : Nat) (a : Nat → Nat) (gv rc : Int32) (rn lv lk ss rw sg od aw tb md ql dr : Nat → Int32) (n : Nat) (x1 : Int32) (hn6 : n ≤ 6) : KC l yX2_remove wsX2_remove rmX2_remove G [(cB, .byte), (cI, .int), (cZ, .boolean)] tc [.ref (a 4), .int x1] (wd a cB cI cZ gv rn lv rc lk ss rw sg (nI n) od aw tb md ql dr) (fun v w' => v = none ∧ w' = (wd a cB cI cZ gv rn lv rc lk ss rw sg (nI (px_rm n od x1).1) ((px_rm n od x1).2) aw tb md ql dr)) := by
  refine KC.of (cc := cX2_remove) (maxL := 4) (ret := none) (by decide) rfl (Nat.le_of_ble_eq_true rfl) ?_
  intro p e s m below meth c args A Q ls hx hb hml hown hts hK hZ hA hP hD hS hl hri hrv
  have hown : s.vm.findClass RX2 = some m.cls := hown
  have hl : lv_has ls 4 [(0, .ref (a 4)), (1, .int x1)] := hl
  have fl_9 := hts (.fieldLink RX2 9 "LockDesk$Queue" "order" "[I") (by decide +kernel)
  have fl_15 := hts (.fieldLink RX2 15 "LockDesk$Queue" "count" "I") (by decide +kernel)
  have hin2 : ∀ w ∈ wsX20, w ∈ wsX2_remove := by decide +kernel
  refine lv_iconst (v := 0) hx hb dX2_remove_0 (by decide) ?_
  refine lv_istore_n (lv' := [(2, .int 0), (0, .ref (a 4)), (1, .int x1)]) hx hb dX2_remove_1 rfl hl (by decide) rfl (fun ls hl => ?_)
  refine lv_iconst (v := 0) hx hb dX2_remove_2 (by decide) ?_
  refine lv_istore_n (lv' := [(3, .int 0), (2, .int 0), (0, .ref (a 4)), (1, .int x1)]) hx hb dX2_remove_3 rfl hl (by decide) rfl (fun ls hl => ?_)
  have lp_4 : ∀ (nf : Nat) (i kp : Nat) (f : Nat → Int32) (H : Heap) (locs : List Loc) (ls : Array Slot), n - i < nf → (i ≤ n) → (kp ≤ i) → ((kp, f) = fw_it (px_rmS x1) i (0, od)) → va_P G vwCl (wd a cB cI cZ gv rn lv rc lk ss rw sg (nI n) f aw tb md ql dr) H → va_D A (wd a cB cI cZ gv rn lv rc lk ss rw sg (nI n) f aw tb md ql dr) → va_S A s.heap H locs → lv_has ls 4 [(3, .int (nI i)), (2, .int (nI kp)), (0, .ref (a 4)), (1, .int x1)] → W p l e rmX2_remove s m args below meth c H locs 0 0 Q (F0 m 4 ls []) := by
    intro nf
    induction nf with
    | zero => intro i kp f H locs ls h0; exact absurd h0 (Nat.not_lt_zero _)
    | succ nf_4 ih_4 =>
      intro i kp f H locs ls hn_4 hi hk hf hP hD hS hl
      refine lv_iload_n hx hb dX2_remove_4 rfl (lv_at hl 0 rfl) ?_
      refine lv_aload_n hx hb dX2_remove_5 rfl (lv_at hl 2 rfl) ?_
      refine va_get (D := G) (ci := 2) (v := .int (nI n)) (C := RX2) (T := TX2) (N := 7) hx hb hts hin2 hown hK hP 4 rfl rfl 1 (by decide) fl_15 (fun _ h9 => h9) rfl dX2_remove_6 ?_
      refine lv_icmp_ge (tgt := 43) hx hb dX2_remove_9 (by decide) (fun c_9 => ?_) (fun c_9 => ?_)
      · have hE : i = n := by
          have := fw_nle c_9 (by omega) (by omega)
          omega
        refine lv_aload_n hx hb dX2_remove_43 rfl (lv_at hl 2 rfl) ?_
        refine lv_iload_n hx hb dX2_remove_44 rfl (lv_at hl 1 rfl) ?_
        refine va_put (D := G) (ci := 2) (v := .int (nI kp)) (ty := .int) (C := RX2) (T := TX2) (N := 7) hx hb hts hin2 tyX2 tyX2_ok nmX2 hown hK hP hD hS 4 rfl rfl 1 (by decide) fl_15 (fun _ h9 => h9) rfl (by decide +kernel) rfl rfl (Nat.le_of_ble_eq_true rfl) dX2_remove_45 (fun H locs hP hD hS => ?_)
        have hP : va_P G vwCl (wd a cB cI cZ gv rn lv rc lk ss rw sg (nI kp) f aw tb md ql dr) H := hP
        have hD : va_D A (wd a cB cI cZ gv rn lv rc lk ss rw sg (nI kp) f aw tb md ql dr) := hD
        exact hrv rfl _ _ _ _ _ (⟨rfl, by rw [px_rm, ← hE, ← hf]⟩) hP hD hS dX2_remove_48
      · have hL : i < n := by
          have := fw_nlt c_9 (by omega) (by omega)
          omega
        refine lv_aload_n hx hb dX2_remove_12 rfl (lv_at hl 2 rfl) ?_
        refine va_get (D := G) (ci := 2) (v := .ref (a 11)) (C := RX2) (T := TX2) (N := 7) hx hb hts hin2 hown hK hP 4 rfl rfl 0 (by decide) fl_9 (fun _ h9 => h9) rfl dX2_remove_13 ?_
        refine lv_iload_n hx hb dX2_remove_16 rfl (lv_at hl 0 rfl) ?_
        refine fw_iald (j := i) (f := f) hx hb hK hP 11 1 rfl rfl (by omega) (by decide) dX2_remove_17 ?_
        refine lv_iload_n hx hb dX2_remove_18 rfl (lv_at hl 3 rfl) ?_
        refine lv_icmp_eq (tgt := 37) hx hb dX2_remove_19 (by decide) (fun c_19 => ?_) (fun c_19 => ?_)
        · refine lv_iinc (v := nI (i + 1)) (lv' := [(3, .int (nI (i + 1))), (2, .int (nI kp)), (0, .ref (a 4)), (1, .int x1)]) hx hb dX2_remove_37 hl (k := 0) rfl (fw_inc _) (by decide) rfl (fun ls hl => ?_)
          refine lv_goto (tgt := 4) hx hb dX2_remove_40 (by decide) ?_
          exact ih_4 (i + 1) kp f _ _ _ (by omega) (by omega) (by omega) (by rw [fw_itS, ← hf]; simp [px_rmS, c_19]) hP hD hS (lv_sub hl [0, 1, 2, 3] rfl)
        · refine lv_aload_n hx hb dX2_remove_22 rfl (lv_at hl 2 rfl) ?_
          refine va_get (D := G) (ci := 2) (v := .ref (a 11)) (C := RX2) (T := TX2) (N := 7) hx hb hts hin2 hown hK hP 4 rfl rfl 0 (by decide) fl_9 (fun _ h9 => h9) rfl dX2_remove_23 ?_
          refine lv_iload_n hx hb dX2_remove_26 rfl (lv_at hl 1 rfl) ?_
          refine lv_aload_n hx hb dX2_remove_27 rfl (lv_at hl 2 rfl) ?_
          refine va_get (D := G) (ci := 2) (v := .ref (a 11)) (C := RX2) (T := TX2) (N := 7) hx hb hts hin2 hown hK hP 4 rfl rfl 0 (by decide) fl_9 (fun _ h9 => h9) rfl dX2_remove_28 ?_
          refine lv_iload_n hx hb dX2_remove_31 rfl (lv_at hl 0 rfl) ?_
          refine fw_iald (j := i) (f := f) hx hb hK hP 11 1 rfl rfl (by omega) (by decide) dX2_remove_32 ?_
          refine fw_iast (j := kp) (f := f) (x := f i) hx hb hK hP hD hS 11 1 rfl rfl (by omega) (by decide) dX2_remove_33 (fun H locs hP hD hS => ?_)
          have hP : va_P G vwCl (wd a cB cI cZ gv rn lv rc lk ss rw sg (nI n) (upd f kp (f i)) aw tb md ql dr) H := hP
          have hD : va_D A (wd a cB cI cZ gv rn lv rc lk ss rw sg (nI n) (upd f kp (f i)) aw tb md ql dr) := hD
          refine lv_iinc (v := nI (kp + 1)) (lv' := [(2, .int (nI (kp + 1))), (3, .int (nI i)), (0, .ref (a 4)), (1, .int x1)]) hx hb dX2_remove_34 hl (k := 1) rfl (fw_inc _) (by decide) rfl (fun ls hl => ?_)
          refine lv_iinc (v := nI (i + 1)) (lv' := [(3, .int (nI (i + 1))), (2, .int (nI (kp + 1))), (0, .ref (a 4)), (1, .int x1)]) hx hb dX2_remove_37 hl (k := 1) rfl (fw_inc _) (by decide) rfl (fun ls hl => ?_)
          refine lv_goto (tgt := 4) hx hb dX2_remove_40 (by decide) ?_
          exact ih_4 (i + 1) (kp + 1) (upd f kp (f i)) _ _ _ (by omega) (by omega) (by omega) (by rw [fw_itS, ← hf]; simp [px_rmS, c_19]) hP hD hS (lv_sub hl [0, 1, 2, 3] rfl)
  exact lp_4 _ 0 0 od _ _ _ (Nat.lt_succ_self _) (by omega) (by omega) (rfl) hP hD hS (lv_sub hl [0, 1, 2, 3] rfl)

abbrev rmX2_wants : Room := { frames := 0, cells := 0, slots := 0, locals := 0 }
set_option maxHeartbeats 4000000 in
set_option maxRecDepth 100000 in
theorem c_X2_wants (l : Launch) (G : va_G) (cB cI cZ : ClassId) (tc : Nat) (a : Nat → Nat) (gv rc qc : Int32) (rn lv lk ss rw sg od aw tb md ql dr : Nat → Int32) (x : Nat) (x2 : Int32) (hx6 : x < 6) : KC l yX2_wants wsX2_wants rmX2_wants G [(cB, .byte), (cI, .int), (cZ, .boolean)] tc [.ref (a 4), .int (nI x), .int x2] (wd a cB cI cZ gv rn lv rc lk ss rw sg qc od aw tb md ql dr) (fun v w' => v = some (.int (fw_b (px_wants aw tb dr x x2))) ∧ w' = (wd a cB cI cZ gv rn lv rc lk ss rw sg qc od aw tb md ql dr)) := by
  refine KC.of (cc := cX2_wants) (maxL := 3) (ret := some .boolean) (by decide) rfl (Nat.le_of_ble_eq_true rfl) ?_
  intro p e s m below meth c args A Q ls hx hb hml hown hts hK hZ hA hP hD hS hl hri hrv
  have hown : s.vm.findClass RX2 = some m.cls := hown
  have hl : lv_has ls 3 [(0, .ref (a 4)), (1, .int (nI x)), (2, .int x2)] := hl
  have fl_19 := hts (.fieldLink RX2 19 "LockDesk$Queue" "awaited" "[I") (by decide +kernel)
  have fl_22 := hts (.fieldLink RX2 22 "LockDesk$Queue" "tables" "[I") (by decide +kernel)
  have fl_31 := hts (.fieldLink RX2 31 "LockDesk$Queue" "dropped" "[Z") (by decide +kernel)
  have hin2 : ∀ w ∈ wsX20, w ∈ wsX2_wants := by decide +kernel
  refine lv_aload_n hx hb dX2_wants_0 rfl (lv_at hl 0 rfl) ?_
  refine va_get (D := G) (ci := 2) (v := .ref (a 12)) (C := RX2) (T := TX2) (N := 7) hx hb hts hin2 hown hK hP 4 rfl rfl 2 (by decide) fl_19 (fun _ h9 => h9) rfl dX2_wants_1 ?_
  refine lv_iload_n hx hb dX2_wants_4 rfl (lv_at hl 1 rfl) ?_
  refine fw_iald (j := x) (f := aw) hx hb hK hP 12 1 rfl rfl (by omega) (by decide) dX2_wants_5 ?_
  refine lv_if_ne (tgt := 32) hx hb dX2_wants_6 (by decide) (fun c_6 => ?_) (fun c_6 => ?_)
  · refine lv_iconst (v := 0) hx hb dX2_wants_32 (by decide) ?_
    exact hri _ rfl 0 _ _ _ _ _ (by decide) (⟨by simp [px_wants, fw_b, c_6], rfl⟩) hP hD hS dX2_wants_33
  · refine lv_aload_n hx hb dX2_wants_9 rfl (lv_at hl 0 rfl) ?_
    refine va_get (D := G) (ci := 2) (v := .ref (a 13)) (C := RX2) (T := TX2) (N := 7) hx hb hts hin2 hown hK hP 4 rfl rfl 3 (by decide) fl_22 (fun _ h9 => h9) rfl dX2_wants_10 ?_
    refine lv_iload_n hx hb dX2_wants_13 rfl (lv_at hl 1 rfl) ?_
    refine fw_iald (j := x) (f := tb) hx hb hK hP 13 1 rfl rfl (by omega) (by decide) dX2_wants_14 ?_
    refine lv_iload_n hx hb dX2_wants_15 rfl (lv_at hl 2 rfl) ?_
    refine lv_icmp_ne (tgt := 32) hx hb dX2_wants_16 (by decide) (fun c_16 => ?_) (fun c_16 => ?_)
    · refine lv_iconst (v := 0) hx hb dX2_wants_32 (by decide) ?_
      exact hri _ rfl 0 _ _ _ _ _ (by decide) (⟨by simp [px_wants, fw_b, c_6, c_16], rfl⟩) hP hD hS dX2_wants_33
    · refine lv_aload_n hx hb dX2_wants_19 rfl (lv_at hl 0 rfl) ?_
      refine va_get (D := G) (ci := 2) (v := .ref (a 16)) (C := RX2) (T := TX2) (N := 7) hx hb hts hin2 hown hK hP 4 rfl rfl 6 (by decide) fl_31 (fun _ h9 => h9) rfl dX2_wants_20 ?_
      refine lv_iload_n hx hb dX2_wants_23 rfl (lv_at hl 1 rfl) ?_
      refine fw_zald (j := x) (f := dr) hx hb hK hP 16 2 rfl rfl (by omega) (by decide) dX2_wants_24 ?_
      refine lv_if_ne (tgt := 32) hx hb dX2_wants_25 (by decide) (fun c_25 => ?_) (fun c_25 => ?_)
      · refine lv_iconst (v := 0) hx hb dX2_wants_32 (by decide) ?_
        exact hri _ rfl 0 _ _ _ _ _ (by decide) (⟨by simp [px_wants, fw_b, c_6, c_16, c_25], rfl⟩) hP hD hS dX2_wants_33
      · refine lv_iconst (v := 1) hx hb dX2_wants_28 (by decide) ?_
        refine lv_goto (tgt := 33) hx hb dX2_wants_29 (by decide) ?_
        exact hri _ rfl 1 _ _ _ _ _ (by decide) (⟨by simp [px_wants, fw_b, c_6, c_16, c_25], rfl⟩) hP hD hS dX2_wants_33

abbrev rmX2_earlierAgainst : Room := { frames := 2, cells := 0, slots := 0, locals := 42 }
set_option maxHeartbeats 4000000 in
set_option maxRecDepth 100000 in
theorem c_X2_earlierAgainst (l : Launch) (G : va_G) (cB cI cZ : ClassId) (tc : Nat) (a : Nat → Nat) (gv rc : Int32) (rn lv lk ss rw sg od aw tb md ql dr : Nat → Int32) (n : Nat) (x1 : Int32) (k1 : Nat) (pl : Nat) (hn6 : n ≤ 6) (hk9 : k1 < 9) (hpl : pl ≤ 6) (hod : ∀ k, k < n → ∃ j : Nat, j < 6 ∧ od k = nI j) : KC l yX2_earlierAgainst wsX2_earlierAgainst rmX2_earlierAgainst G [(cB, .byte), (cI, .int), (cZ, .boolean)] tc [.ref (a 4), .int x1, .int (nI k1), .int (nI pl)] (wd a cB cI cZ gv rn lv rc lk ss rw sg (nI n) od aw tb md ql dr) (fun v w' => v = some (.int (px_ea n od aw tb md dr x1 k1 pl)) ∧ w' = (wd a cB cI cZ gv rn lv rc lk ss rw sg (nI n) od aw tb md ql dr)) := by
  refine KC.of (cc := cX2_earlierAgainst) (maxL := 7) (ret := some .int) (by decide) rfl (Nat.le_of_ble_eq_true rfl) ?_
  intro p e s m below meth c args A Q ls hx hb hml hown hts hK hZ hA hP hD hS hl hri hrv
  have hown : s.vm.findClass RX2 = some m.cls := hown
  have hl : lv_has ls 7 [(0, .ref (a 4)), (1, .int x1), (2, .int (nI k1)), (3, .int (nI pl))] := hl
  have fl_9 := hts (.fieldLink RX2 9 "LockDesk$Queue" "order" "[I") (by decide +kernel)
  have fl_15 := hts (.fieldLink RX2 15 "LockDesk$Queue" "count" "I") (by decide +kernel)
  have fl_25 := hts (.fieldLink RX2 25 "LockDesk$Queue" "modes" "[I") (by decide +kernel)
  have hin2 : ∀ w ∈ wsX20, w ∈ wsX2_earlierAgainst := by decide +kernel
  refine lv_iconst (v := 0) hx hb dX2_earlierAgainst_0 (by decide) ?_
  refine lv_istore (lv' := [(4, .int 0), (0, .ref (a 4)), (1, .int x1), (2, .int (nI k1)), (3, .int (nI pl))]) hx hb dX2_earlierAgainst_1 hl (by decide) rfl (fun ls hl => ?_)
  refine lv_iconst (v := 0) hx hb dX2_earlierAgainst_3 (by decide) ?_
  refine lv_istore (lv' := [(5, .int 0), (4, .int 0), (0, .ref (a 4)), (1, .int x1), (2, .int (nI k1)), (3, .int (nI pl))]) hx hb dX2_earlierAgainst_4 hl (by decide) rfl (fun ls hl => ?_)
  have lp_6 : ∀ (nf : Nat) (i : Nat) (acc : Int32) (H : Heap) (locs : List Loc) (ls : Array Slot), n - i < nf → (i ≤ n) → (i ≤ pl) → (acc = fw_it (px_eaS od aw tb md dr x1 k1) i 0) → va_P G vwCl (wd a cB cI cZ gv rn lv rc lk ss rw sg (nI n) od aw tb md ql dr) H → va_D A (wd a cB cI cZ gv rn lv rc lk ss rw sg (nI n) od aw tb md ql dr) → va_S A s.heap H locs → lv_has ls 7 [(5, .int (nI i)), (4, .int acc), (0, .ref (a 4)), (1, .int x1), (2, .int (nI k1)), (3, .int (nI pl))] → W p l e rmX2_earlierAgainst s m args below meth c H locs 0 0 Q (F0 m 6 ls []) := by
    intro nf
    induction nf with
    | zero => intro i acc H locs ls h0; exact absurd h0 (Nat.not_lt_zero _)
    | succ nf_6 ih_6 =>
      intro i acc H locs ls hn_6 hi hi2 hacc hP hD hS hl
      refine lv_iload hx hb dX2_earlierAgainst_6 (lv_at hl 0 rfl) ?_
      refine lv_aload_n hx hb dX2_earlierAgainst_8 rfl (lv_at hl 2 rfl) ?_
      refine va_get (D := G) (ci := 2) (v := .int (nI n)) (C := RX2) (T := TX2) (N := 7) hx hb hts hin2 hown hK hP 4 rfl rfl 1 (by decide) fl_15 (fun _ h9 => h9) rfl dX2_earlierAgainst_9 ?_
      refine lv_icmp_ge (tgt := 69) hx hb dX2_earlierAgainst_12 (by decide) (fun c_12 => ?_) (fun c_12 => ?_)
      · have hE : i = n := by
          have := fw_nle c_12 (by omega) (by omega)
          omega
        refine lv_iload hx hb dX2_earlierAgainst_69 (lv_at hl 1 rfl) ?_
        exact hri _ rfl acc _ _ _ _ _ (rfl) (⟨by rw [hacc, px_ea, show min n pl = i by omega], rfl⟩) hP hD hS dX2_earlierAgainst_71
      · have hL : i < n := by
          have := fw_nlt c_12 (by omega) (by omega)
          omega
        refine lv_iload hx hb dX2_earlierAgainst_15 (lv_at hl 0 rfl) ?_
        refine lv_iload_n hx hb dX2_earlierAgainst_17 rfl (lv_at hl 5 rfl) ?_
        refine lv_icmp_ge (tgt := 69) hx hb dX2_earlierAgainst_18 (by decide) (fun c_18 => ?_) (fun c_18 => ?_)
        · have hE : i = pl := by
            have := fw_nle c_18 (by omega) (by omega)
            omega
          refine lv_iload hx hb dX2_earlierAgainst_69 (lv_at hl 1 rfl) ?_
          exact hri _ rfl acc _ _ _ _ _ (rfl) (⟨by rw [hacc, px_ea, show min n pl = i by omega], rfl⟩) hP hD hS dX2_earlierAgainst_71
        · have hM : i < pl := by
            have := fw_nlt c_18 (by omega) (by omega)
            omega
          refine lv_aload_n hx hb dX2_earlierAgainst_21 rfl (lv_at hl 2 rfl) ?_
          refine va_get (D := G) (ci := 2) (v := .ref (a 11)) (C := RX2) (T := TX2) (N := 7) hx hb hts hin2 hown hK hP 4 rfl rfl 0 (by decide) fl_9 (fun _ h9 => h9) rfl dX2_earlierAgainst_22 ?_
          refine lv_iload hx hb dX2_earlierAgainst_25 (lv_at hl 0 rfl) ?_
          refine fw_iald (j := i) (f := od) hx hb hK hP 11 1 rfl rfl (by omega) (by decide) dX2_earlierAgainst_27 ?_
          obtain ⟨j, hj, ej⟩ := hod i hL
          rw [ej]
          refine lv_istore (lv' := [(6, .int (nI j)), (5, .int (nI i)), (4, .int acc), (0, .ref (a 4)), (1, .int x1), (2, .int (nI k1)), (3, .int (nI pl))]) hx hb dX2_earlierAgainst_28 hl (by decide) rfl (fun ls hl => ?_)
          refine lv_aload_n hx hb dX2_earlierAgainst_30 rfl (lv_at hl 3 rfl) ?_
          refine lv_iload hx hb dX2_earlierAgainst_31 (lv_at hl 0 rfl) ?_
          refine lv_iload_n hx hb dX2_earlierAgainst_33 rfl (lv_at hl 4 rfl) ?_
          refine kV (As := [.int (nI j), .int x1]) (rest := []) ⟨hx, hb, hml, hown, hts⟩ (c_X2_wants l G cB cI cZ tc a gv rc (nI n) rn lv lk ss rw sg od aw tb md ql dr j x1 hj) (cwV 2 hts gX2_earlierAgainst_X2_wants rfl rfl rfl (by decide +kernel) ⟨by decide, by decide⟩) hK hZ hA hP hD hS 4 2 rfl rfl rfl hl.1 rfl (Nat.le_of_ble_eq_true rfl) dX2_earlierAgainst_34 ⟨Nat.zero_le _, Nat.zero_le _⟩ (fun v w' H locs hp hP hD hS => ?_)
          obtain ⟨rfl, rfl⟩ := hp
          have hP : va_P G vwCl (wd a cB cI cZ gv rn lv rc lk ss rw sg (nI n) od aw tb md ql dr) H := hP
          have hD : va_D A (wd a cB cI cZ gv rn lv rc lk ss rw sg (nI n) od aw tb md ql dr) := hD
          refine W.eq (g2 := F0 m 37 ls [.int (fw_b (px_wants aw tb dr j x1))]) rfl ?_
          refine lv_if_eq (tgt := 63) hx hb dX2_earlierAgainst_37 (by decide) (fun c_37 => ?_) (fun c_37 => ?_)
          · have c_37 := fw_b0.mp c_37
            refine lv_iinc (v := nI (i + 1)) (lv' := [(5, .int (nI (i + 1))), (6, .int (nI j)), (4, .int acc), (0, .ref (a 4)), (1, .int x1), (2, .int (nI k1)), (3, .int (nI pl))]) hx hb dX2_earlierAgainst_63 hl (k := 1) rfl (fw_inc _) (by decide) rfl (fun ls hl => ?_)
            refine lv_goto (tgt := 6) hx hb dX2_earlierAgainst_66 (by decide) ?_
            exact ih_6 (i + 1) acc _ _ _ (by omega) (by omega) (by omega) (by rw [fw_itS, ← hacc]; simp [px_eaS, ej, nI_clamp (show j < 2 ^ 31 by omega), c_37]) hP hD hS (lv_sub hl [0, 2, 3, 4, 5, 6] rfl)
          · have c_37 := fw_b1.mp c_37
            refine lv_iload_n hx hb dX2_earlierAgainst_40 rfl (lv_at hl 5 rfl) ?_
            refine lv_aload_n hx hb dX2_earlierAgainst_41 rfl (lv_at hl 3 rfl) ?_
            refine va_get (D := G) (ci := 2) (v := .ref (a 14)) (C := RX2) (T := TX2) (N := 7) hx hb hts hin2 hown hK hP 4 rfl rfl 4 (by decide) fl_25 (fun _ h9 => h9) rfl dX2_earlierAgainst_42 ?_
            refine lv_iload hx hb dX2_earlierAgainst_45 (lv_at hl 0 rfl) ?_
            refine fw_iald (j := j) (f := md) hx hb hK hP 14 1 rfl rfl (by omega) (by decide) dX2_earlierAgainst_47 ?_
            refine kSN (As := [.int (nI k1), .int (md j)]) (rest := []) ⟨hx, hb, hml, hown, hts⟩ (c_X4_conflict l G [(cB, .byte), (cI, .int), (cZ, .boolean)] tc (wd a cB cI cZ gv rn lv rc lk ss rw sg (nI n) od aw tb md ql dr) k1 (md j) hk9) (⟨va_cnB 2 hts gX2_earlierAgainst_X4_conflict_n47 rfl rfl rfl (hZ.2.1) (hts (.initialized RX4) (by decide +kernel)) (by decide +kernel) ⟨by decide, by decide⟩, hts (.static yX4_conflict) (by decide +kernel), trivial⟩) hK hZ hA hP hD hS rfl hl.1 rfl (Nat.le_of_ble_eq_true rfl) dX2_earlierAgainst_48 ⟨Nat.zero_le _, Nat.zero_le _⟩ (fun v w' H locs hp hP hD hS => ?_)
            obtain ⟨rfl, rfl⟩ := hp
            have hP : va_P G vwCl (wd a cB cI cZ gv rn lv rc lk ss rw sg (nI n) od aw tb md ql dr) H := hP
            have hD : va_D A (wd a cB cI cZ gv rn lv rc lk ss rw sg (nI n) od aw tb md ql dr) := hD
            refine W.eq (g2 := F0 m 51 ls [.int (fw_b (px_cf k1 (md j)))]) rfl ?_
            refine lv_if_eq (tgt := 63) hx hb dX2_earlierAgainst_51 (by decide) (fun c_51 => ?_) (fun c_51 => ?_)
            · have c_51 := fw_b0.mp c_51
              refine lv_iinc (v := nI (i + 1)) (lv' := [(5, .int (nI (i + 1))), (6, .int (nI j)), (4, .int acc), (0, .ref (a 4)), (1, .int x1), (2, .int (nI k1)), (3, .int (nI pl))]) hx hb dX2_earlierAgainst_63 hl (k := 1) rfl (fw_inc _) (by decide) rfl (fun ls hl => ?_)
              refine lv_goto (tgt := 6) hx hb dX2_earlierAgainst_66 (by decide) ?_
              exact ih_6 (i + 1) acc _ _ _ (by omega) (by omega) (by omega) (by rw [fw_itS, ← hacc]; simp [px_eaS, ej, nI_clamp (show j < 2 ^ 31 by omega), c_37, c_51]) hP hD hS (lv_sub hl [0, 2, 3, 4, 5, 6] rfl)
            · have c_51 := fw_b1.mp c_51
              refine lv_iload hx hb dX2_earlierAgainst_54 (lv_at hl 2 rfl) ?_
              refine lv_iconst (v := 1) hx hb dX2_earlierAgainst_56 (by decide) ?_
              refine lv_iload hx hb dX2_earlierAgainst_57 (lv_at hl 0 rfl) ?_
              refine lv_ishl hx hb dX2_earlierAgainst_59 ?_
              refine lv_ior hx hb dX2_earlierAgainst_60 ?_
              refine lv_istore (lv' := [(4, .int (acc ||| (1 <<< ((nI j) &&& 31)))), (6, .int (nI j)), (5, .int (nI i)), (0, .ref (a 4)), (1, .int x1), (2, .int (nI k1)), (3, .int (nI pl))]) hx hb dX2_earlierAgainst_61 hl (by decide) rfl (fun ls hl => ?_)
              refine lv_iinc (v := nI (i + 1)) (lv' := [(5, .int (nI (i + 1))), (4, .int (acc ||| (1 <<< ((nI j) &&& 31)))), (6, .int (nI j)), (0, .ref (a 4)), (1, .int x1), (2, .int (nI k1)), (3, .int (nI pl))]) hx hb dX2_earlierAgainst_63 hl (k := 2) rfl (fw_inc _) (by decide) rfl (fun ls hl => ?_)
              refine lv_goto (tgt := 6) hx hb dX2_earlierAgainst_66 (by decide) ?_
              exact ih_6 (i + 1) (acc ||| (1 <<< ((nI j) &&& 31))) _ _ _ (by omega) (by omega) (by omega) (by rw [fw_itS, ← hacc]; simp [px_eaS, ej, nI_clamp (show j < 2 ^ 31 by omega), c_37, c_51]) hP hD hS (lv_sub hl [0, 1, 3, 4, 5, 6] rfl)
  exact lp_6 _ 0 0 _ _ _ (Nat.lt_succ_self _) (by omega) (by omega) (rfl) hP hD hS (lv_sub hl [0, 1, 2, 3, 4, 5] rfl)

abbrev rmX2_markDropped : Room := { frames := 1, cells := 0, slots := 0, locals := 22 }
set_option maxHeartbeats 4000000 in
set_option maxRecDepth 100000 in
theorem c_X2_markDropped (l : Launch) (G : va_G) (cB cI cZ : ClassId) (tc : Nat) (a : Nat → Nat) (gv rc : Int32) (rn lv lk ss rw sg od aw tb md ql dr : Nat → Int32) (n : Nat) (x1 : Int32) (hn6 : n ≤ 6)(hod : ∀ k, k < n → ∃ j : Nat, j < 6 ∧ od k = nI j) : KC l yX2_markDropped wsX2_markDropped rmX2_markDropped G [(cB, .byte), (cI, .int), (cZ, .boolean)] tc [.ref (a 4), .int x1] (wd a cB cI cZ gv rn lv rc lk ss rw sg (nI n) od aw tb md ql dr) (fun v w' => v = none ∧ w' = (wd a cB cI cZ gv rn lv rc lk ss rw sg (nI n) od aw tb md ql (px_md n od aw tb dr x1))) := by
  refine KC.of (cc := cX2_markDropped) (maxL := 3) (ret := none) (by decide) rfl (Nat.le_of_ble_eq_true rfl) ?_
  intro p e s m below meth c args A Q ls hx hb hml hown hts hK hZ hA hP hD hS hl hri hrv
  have hown : s.vm.findClass RX2 = some m.cls := hown
  have hl : lv_has ls 3 [(0, .ref (a 4)), (1, .int x1)] := hl
  have fl_9 := hts (.fieldLink RX2 9 "LockDesk$Queue" "order" "[I") (by decide +kernel)
  have fl_15 := hts (.fieldLink RX2 15 "LockDesk$Queue" "count" "I") (by decide +kernel)
  have fl_31 := hts (.fieldLink RX2 31 "LockDesk$Queue" "dropped" "[Z") (by decide +kernel)
  have hin2 : ∀ w ∈ wsX20, w ∈ wsX2_markDropped := by decide +kernel
  refine lv_iconst (v := 0) hx hb dX2_markDropped_0 (by decide) ?_
  refine lv_istore_n (lv' := [(2, .int 0), (0, .ref (a 4)), (1, .int x1)]) hx hb dX2_markDropped_1 rfl hl (by decide) rfl (fun ls hl => ?_)
  have lp_2 : ∀ (nf : Nat) (i : Nat) (f : Nat → Int32) (H : Heap) (locs : List Loc) (ls : Array Slot), n - i < nf → (i ≤ n) → (f = fw_it (px_mdS od aw tb x1) i dr) → va_P G vwCl (wd a cB cI cZ gv rn lv rc lk ss rw sg (nI n) od aw tb md ql f) H → va_D A (wd a cB cI cZ gv rn lv rc lk ss rw sg (nI n) od aw tb md ql f) → va_S A s.heap H locs → lv_has ls 3 [(2, .int (nI i)), (0, .ref (a 4)), (1, .int x1)] → W p l e rmX2_markDropped s m args below meth c H locs 0 0 Q (F0 m 2 ls []) := by
    intro nf
    induction nf with
    | zero => intro i f H locs ls h0; exact absurd h0 (Nat.not_lt_zero _)
    | succ nf_2 ih_2 =>
      intro i f H locs ls hn_2 hi hf hP hD hS hl
      refine lv_iload_n hx hb dX2_markDropped_2 rfl (lv_at hl 0 rfl) ?_
      refine lv_aload_n hx hb dX2_markDropped_3 rfl (lv_at hl 1 rfl) ?_
      refine va_get (D := G) (ci := 2) (v := .int (nI n)) (C := RX2) (T := TX2) (N := 7) hx hb hts hin2 hown hK hP 4 rfl rfl 1 (by decide) fl_15 (fun _ h9 => h9) rfl dX2_markDropped_4 ?_
      refine lv_icmp_ge (tgt := 42) hx hb dX2_markDropped_7 (by decide) (fun c_7 => ?_) (fun c_7 => ?_)
      · have hE : i = n := by
          have := fw_nle c_7 (by omega) (by omega)
          omega
        exact hrv rfl _ _ _ _ _ (⟨rfl, by rw [px_md, ← hE, ← hf]⟩) hP hD hS dX2_markDropped_42
      · have hL : i < n := by
          have := fw_nlt c_7 (by omega) (by omega)
          omega
        refine lv_aload_n hx hb dX2_markDropped_10 rfl (lv_at hl 1 rfl) ?_
        refine lv_aload_n hx hb dX2_markDropped_11 rfl (lv_at hl 1 rfl) ?_
        refine va_get (D := G) (ci := 2) (v := .ref (a 11)) (C := RX2) (T := TX2) (N := 7) hx hb hts hin2 hown hK hP 4 rfl rfl 0 (by decide) fl_9 (fun _ h9 => h9) rfl dX2_markDropped_12 ?_
        refine lv_iload_n hx hb dX2_markDropped_15 rfl (lv_at hl 0 rfl) ?_
        refine fw_iald (j := i) (f := od) hx hb hK hP 11 1 rfl rfl (by omega) (by decide) dX2_markDropped_16 ?_
        obtain ⟨j, hj, ej⟩ := hod i hL
        rw [ej]
        refine lv_iload_n hx hb dX2_markDropped_17 rfl (lv_at hl 2 rfl) ?_
        refine kV (As := [.int (nI j), .int x1]) (rest := []) ⟨hx, hb, hml, hown, hts⟩ (c_X2_wants l G cB cI cZ tc a gv rc (nI n) rn lv lk ss rw sg od aw tb md ql f j x1 hj) (cwV 2 hts gX2_markDropped_X2_wants rfl rfl rfl (by decide +kernel) ⟨by decide, by decide⟩) hK hZ hA hP hD hS 4 2 rfl rfl rfl hl.1 rfl (Nat.le_of_ble_eq_true rfl) dX2_markDropped_18 ⟨Nat.zero_le _, Nat.zero_le _⟩ (fun v w' H locs hp hP hD hS => ?_)
        obtain ⟨rfl, rfl⟩ := hp
        have hP : va_P G vwCl (wd a cB cI cZ gv rn lv rc lk ss rw sg (nI n) od aw tb md ql f) H := hP
        have hD : va_D A (wd a cB cI cZ gv rn lv rc lk ss rw sg (nI n) od aw tb md ql f) := hD
        refine W.eq (g2 := F0 m 21 ls [.int (fw_b (px_wants aw tb f j x1))]) rfl ?_
        refine lv_if_eq (tgt := 36) hx hb dX2_markDropped_21 (by decide) (fun c_21 => ?_) (fun c_21 => ?_)
        · have c_21 := fw_b0.mp c_21
          refine lv_iinc (v := nI (i + 1)) (lv' := [(2, .int (nI (i + 1))), (0, .ref (a 4)), (1, .int x1)]) hx hb dX2_markDropped_36 hl (k := 0) rfl (fw_inc _) (by decide) rfl (fun ls hl => ?_)
          refine lv_goto (tgt := 2) hx hb dX2_markDropped_39 (by decide) ?_
          exact ih_2 (i + 1) f _ _ _ (by omega) (by omega) (by rw [fw_itS, ← hf]; simp [px_mdS, ej, nI_clamp (show j < 2 ^ 31 by omega), c_21]) hP hD hS (lv_sub hl [0, 1, 2] rfl)
        · have c_21 := fw_b1.mp c_21
          refine lv_aload_n hx hb dX2_markDropped_24 rfl (lv_at hl 1 rfl) ?_
          refine va_get (D := G) (ci := 2) (v := .ref (a 16)) (C := RX2) (T := TX2) (N := 7) hx hb hts hin2 hown hK hP 4 rfl rfl 6 (by decide) fl_31 (fun _ h9 => h9) rfl dX2_markDropped_25 ?_
          refine lv_aload_n hx hb dX2_markDropped_28 rfl (lv_at hl 1 rfl) ?_
          refine va_get (D := G) (ci := 2) (v := .ref (a 11)) (C := RX2) (T := TX2) (N := 7) hx hb hts hin2 hown hK hP 4 rfl rfl 0 (by decide) fl_9 (fun _ h9 => h9) rfl dX2_markDropped_29 ?_
          refine lv_iload_n hx hb dX2_markDropped_32 rfl (lv_at hl 0 rfl) ?_
          refine fw_iald (j := i) (f := od) hx hb hK hP 11 1 rfl rfl (by omega) (by decide) dX2_markDropped_33 ?_
          rw [ej]
          refine lv_iconst (v := 1) hx hb dX2_markDropped_34 (by decide) ?_
          refine fw_zast (j := j) (f := f) (x := 1) hx hb hK hP hD hS 16 2 rfl rfl (by omega) (by decide) (by decide) dX2_markDropped_35 (fun H locs hP hD hS => ?_)
          have hP : va_P G vwCl (wd a cB cI cZ gv rn lv rc lk ss rw sg (nI n) od aw tb md ql (upd f j 1)) H := hP
          have hD : va_D A (wd a cB cI cZ gv rn lv rc lk ss rw sg (nI n) od aw tb md ql (upd f j 1)) := hD
          refine lv_iinc (v := nI (i + 1)) (lv' := [(2, .int (nI (i + 1))), (0, .ref (a 4)), (1, .int x1)]) hx hb dX2_markDropped_36 hl (k := 0) rfl (fw_inc _) (by decide) rfl (fun ls hl => ?_)
          refine lv_goto (tgt := 2) hx hb dX2_markDropped_39 (by decide) ?_
          exact ih_2 (i + 1) (upd f j 1) _ _ _ (by omega) (by omega) (by rw [fw_itS, ← hf]; simp [px_mdS, ej, nI_clamp (show j < 2 ^ 31 by omega), c_21]) hP hD hS (lv_sub hl [0, 1, 2] rfl)
  exact lp_2 _ 0 dr _ _ _ (Nat.lt_succ_self _) (by omega) (rfl) hP hD hS (lv_sub hl [0, 1, 2] rfl)

abbrev rmX2_lower : Room := { frames := 0, cells := 0, slots := 0, locals := 0 }
set_option maxHeartbeats 4000000 in
set_option maxRecDepth 100000 in
theorem c_X2_lower (l : Launch) (G : va_G) (cB cI cZ : ClassId) (tc : Nat) (a : Nat → Nat) (gv rc qc : Int32) (rn lv lk ss rw sg od aw tb md ql dr : Nat → Int32) (x : Nat) (z : Nat) (hx6 : x < 6) : KC l yX2_lower wsX2_lower rmX2_lower G [(cB, .byte), (cI, .int), (cZ, .boolean)] tc [.ref (a 4), .int (nI x), .int (nI (z + 1))] (wd a cB cI cZ gv rn lv rc lk ss rw sg qc od aw tb md ql dr) (fun v w' => v = none ∧ w' = (wd a cB cI cZ gv rn lv rc lk ss rw sg qc od aw tb md (px_low ql x z) dr)) := by
  refine KC.of (cc := cX2_lower) (maxL := 3) (ret := none) (by decide) rfl (Nat.le_of_ble_eq_true rfl) ?_
  intro p e s m below meth c args A Q ls hx hb hml hown hts hK hZ hA hP hD hS hl hri hrv
  have hown : s.vm.findClass RX2 = some m.cls := hown
  have hl : lv_has ls 3 [(0, .ref (a 4)), (1, .int (nI x)), (2, .int (nI (z + 1)))] := hl
  have fl_28 := hts (.fieldLink RX2 28 "LockDesk$Queue" "levels" "[I") (by decide +kernel)
  have hin2 : ∀ w ∈ wsX20, w ∈ wsX2_lower := by decide +kernel
  refine lv_aload_n hx hb dX2_lower_0 rfl (lv_at hl 0 rfl) ?_
  refine va_get (D := G) (ci := 2) (v := .ref (a 15)) (C := RX2) (T := TX2) (N := 7) hx hb hts hin2 hown hK hP 4 rfl rfl 5 (by decide) fl_28 (fun _ h9 => h9) rfl dX2_lower_1 ?_
  refine lv_iload_n hx hb dX2_lower_4 rfl (lv_at hl 1 rfl) ?_
  refine fw_iald (j := x) (f := ql) hx hb hK hP 15 1 rfl rfl (by omega) (by decide) dX2_lower_5 ?_
  refine lv_iload_n hx hb dX2_lower_6 rfl (lv_at hl 2 rfl) ?_
  refine lv_icmp_lt (tgt := 19) hx hb dX2_lower_7 (by decide) (fun c_7 => ?_) (fun c_7 => ?_)
  · exact hrv rfl _ _ _ _ _ (⟨rfl, by simp [px_low, c_7]⟩) hP hD hS dX2_lower_19
  · refine lv_aload_n hx hb dX2_lower_10 rfl (lv_at hl 0 rfl) ?_
    refine va_get (D := G) (ci := 2) (v := .ref (a 15)) (C := RX2) (T := TX2) (N := 7) hx hb hts hin2 hown hK hP 4 rfl rfl 5 (by decide) fl_28 (fun _ h9 => h9) rfl dX2_lower_11 ?_
    refine lv_iload_n hx hb dX2_lower_14 rfl (lv_at hl 1 rfl) ?_
    refine lv_iload_n hx hb dX2_lower_15 rfl (lv_at hl 2 rfl) ?_
    refine lv_iconst (v := 1) hx hb dX2_lower_16 (by decide) ?_
    refine lv_isub hx hb dX2_lower_17 ?_
    rw [nI_pred z]
    refine fw_iast (j := x) (f := ql) (x := nI z) hx hb hK hP hD hS 15 1 rfl rfl (by omega) (by decide) dX2_lower_18 (fun H locs hP hD hS => ?_)
    have hP : va_P G vwCl (wd a cB cI cZ gv rn lv rc lk ss rw sg qc od aw tb md (upd ql x (nI z)) dr) H := hP
    have hD : va_D A (wd a cB cI cZ gv rn lv rc lk ss rw sg qc od aw tb md (upd ql x (nI z)) dr) := hD
    exact hrv rfl _ _ _ _ _ (⟨rfl, by simp [px_low, c_7]⟩) hP hD hS dX2_lower_19

abbrev rmX2_isForNumber : Room := { frames := 0, cells := 0, slots := 0, locals := 0 }
set_option maxHeartbeats 4000000 in
set_option maxRecDepth 100000 in
theorem c_X2_isForNumber (l : Launch) (G : va_G) (cB cI cZ : ClassId) (tc : Nat) (a : Nat → Nat) (gv rc qc : Int32) (rn lv lk ss rw sg od aw tb md ql dr : Nat → Int32) (x : Nat) (hx6 : x < 6) : KC l yX2_isForNumber wsX2_isForNumber rmX2_isForNumber G [(cB, .byte), (cI, .int), (cZ, .boolean)] tc [.ref (a 4), .int (nI x)] (wd a cB cI cZ gv rn lv rc lk ss rw sg qc od aw tb md ql dr) (fun v w' => v = some (.int (fw_b (!decide (aw x = 0)))) ∧ w' = (wd a cB cI cZ gv rn lv rc lk ss rw sg qc od aw tb md ql dr)) := by
  refine KC.of (cc := cX2_isForNumber) (maxL := 2) (ret := some .boolean) (by decide) rfl (Nat.le_of_ble_eq_true rfl) ?_
  intro p e s m below meth c args A Q ls hx hb hml hown hts hK hZ hA hP hD hS hl hri hrv
  have hown : s.vm.findClass RX2 = some m.cls := hown
  have hl : lv_has ls 2 [(0, .ref (a 4)), (1, .int (nI x))] := hl
  have fl_19 := hts (.fieldLink RX2 19 "LockDesk$Queue" "awaited" "[I") (by decide +kernel)
  have hin2 : ∀ w ∈ wsX20, w ∈ wsX2_isForNumber := by decide +kernel
  refine lv_aload_n hx hb dX2_isForNumber_0 rfl (lv_at hl 0 rfl) ?_
  refine va_get (D := G) (ci := 2) (v := .ref (a 12)) (C := RX2) (T := TX2) (N := 7) hx hb hts hin2 hown hK hP 4 rfl rfl 2 (by decide) fl_19 (fun _ h9 => h9) rfl dX2_isForNumber_1 ?_
  refine lv_iload_n hx hb dX2_isForNumber_4 rfl (lv_at hl 1 rfl) ?_
  refine fw_iald (j := x) (f := aw) hx hb hK hP 12 1 rfl rfl (by omega) (by decide) dX2_isForNumber_5 ?_
  refine lv_if_eq (tgt := 13) hx hb dX2_isForNumber_6 (by decide) (fun c_6 => ?_) (fun c_6 => ?_)
  · refine lv_iconst (v := 0) hx hb dX2_isForNumber_13 (by decide) ?_
    exact hri _ rfl 0 _ _ _ _ _ (by decide) (⟨by simp [fw_b, c_6], rfl⟩) hP hD hS dX2_isForNumber_14
  · refine lv_iconst (v := 1) hx hb dX2_isForNumber_9 (by decide) ?_
    refine lv_goto (tgt := 14) hx hb dX2_isForNumber_10 (by decide) ?_
    exact hri _ rfl 1 _ _ _ _ _ (by decide) (⟨by simp [fw_b, c_6], rfl⟩) hP hD hS dX2_isForNumber_14

abbrev rmX2_numberOf : Room := { frames := 0, cells := 0, slots := 0, locals := 0 }
set_option maxHeartbeats 4000000 in
set_option maxRecDepth 100000 in
theorem c_X2_numberOf (l : Launch) (G : va_G) (cB cI cZ : ClassId) (tc : Nat) (a : Nat → Nat) (gv rc qc : Int32) (rn lv lk ss rw sg od aw tb md ql dr : Nat → Int32) (x : Nat) (hx6 : x < 6) : KC l yX2_numberOf wsX2_numberOf rmX2_numberOf G [(cB, .byte), (cI, .int), (cZ, .boolean)] tc [.ref (a 4), .int (nI x)] (wd a cB cI cZ gv rn lv rc lk ss rw sg qc od aw tb md ql dr) (fun v w' => v = some (.int (aw x)) ∧ w' = (wd a cB cI cZ gv rn lv rc lk ss rw sg qc od aw tb md ql dr)) := by
  refine KC.of (cc := cX2_numberOf) (maxL := 2) (ret := some .int) (by decide) rfl (Nat.le_of_ble_eq_true rfl) ?_
  intro p e s m below meth c args A Q ls hx hb hml hown hts hK hZ hA hP hD hS hl hri hrv
  have hown : s.vm.findClass RX2 = some m.cls := hown
  have hl : lv_has ls 2 [(0, .ref (a 4)), (1, .int (nI x))] := hl
  have fl_19 := hts (.fieldLink RX2 19 "LockDesk$Queue" "awaited" "[I") (by decide +kernel)
  have hin2 : ∀ w ∈ wsX20, w ∈ wsX2_numberOf := by decide +kernel
  refine lv_aload_n hx hb dX2_numberOf_0 rfl (lv_at hl 0 rfl) ?_
  refine va_get (D := G) (ci := 2) (v := .ref (a 12)) (C := RX2) (T := TX2) (N := 7) hx hb hts hin2 hown hK hP 4 rfl rfl 2 (by decide) fl_19 (fun _ h9 => h9) rfl dX2_numberOf_1 ?_
  refine lv_iload_n hx hb dX2_numberOf_4 rfl (lv_at hl 1 rfl) ?_
  refine fw_iald (j := x) (f := aw) hx hb hK hP 12 1 rfl rfl (by omega) (by decide) dX2_numberOf_5 ?_
  exact hri _ rfl (aw x) _ _ _ _ _ (rfl) (⟨rfl, rfl⟩) hP hD hS dX2_numberOf_6

abbrev rmX2_tableOf : Room := { frames := 0, cells := 0, slots := 0, locals := 0 }
set_option maxHeartbeats 4000000 in
set_option maxRecDepth 100000 in
theorem c_X2_tableOf (l : Launch) (G : va_G) (cB cI cZ : ClassId) (tc : Nat) (a : Nat → Nat) (gv rc qc : Int32) (rn lv lk ss rw sg od aw tb md ql dr : Nat → Int32) (x : Nat) (hx6 : x < 6) : KC l yX2_tableOf wsX2_tableOf rmX2_tableOf G [(cB, .byte), (cI, .int), (cZ, .boolean)] tc [.ref (a 4), .int (nI x)] (wd a cB cI cZ gv rn lv rc lk ss rw sg qc od aw tb md ql dr) (fun v w' => v = some (.int (tb x)) ∧ w' = (wd a cB cI cZ gv rn lv rc lk ss rw sg qc od aw tb md ql dr)) := by
  refine KC.of (cc := cX2_tableOf) (maxL := 2) (ret := some .int) (by decide) rfl (Nat.le_of_ble_eq_true rfl) ?_
  intro p e s m below meth c args A Q ls hx hb hml hown hts hK hZ hA hP hD hS hl hri hrv
  have hown : s.vm.findClass RX2 = some m.cls := hown
  have hl : lv_has ls 2 [(0, .ref (a 4)), (1, .int (nI x))] := hl
  have fl_22 := hts (.fieldLink RX2 22 "LockDesk$Queue" "tables" "[I") (by decide +kernel)
  have hin2 : ∀ w ∈ wsX20, w ∈ wsX2_tableOf := by decide +kernel
  refine lv_aload_n hx hb dX2_tableOf_0 rfl (lv_at hl 0 rfl) ?_
  refine va_get (D := G) (ci := 2) (v := .ref (a 13)) (C := RX2) (T := TX2) (N := 7) hx hb hts hin2 hown hK hP 4 rfl rfl 3 (by decide) fl_22 (fun _ h9 => h9) rfl dX2_tableOf_1 ?_
  refine lv_iload_n hx hb dX2_tableOf_4 rfl (lv_at hl 1 rfl) ?_
  refine fw_iald (j := x) (f := tb) hx hb hK hP 13 1 rfl rfl (by omega) (by decide) dX2_tableOf_5 ?_
  exact hri _ rfl (tb x) _ _ _ _ _ (rfl) (⟨rfl, rfl⟩) hP hD hS dX2_tableOf_6

abbrev rmX2_modeOf : Room := { frames := 0, cells := 0, slots := 0, locals := 0 }
set_option maxHeartbeats 4000000 in
set_option maxRecDepth 100000 in
theorem c_X2_modeOf (l : Launch) (G : va_G) (cB cI cZ : ClassId) (tc : Nat) (a : Nat → Nat) (gv rc qc : Int32) (rn lv lk ss rw sg od aw tb md ql dr : Nat → Int32) (x : Nat) (hx6 : x < 6) : KC l yX2_modeOf wsX2_modeOf rmX2_modeOf G [(cB, .byte), (cI, .int), (cZ, .boolean)] tc [.ref (a 4), .int (nI x)] (wd a cB cI cZ gv rn lv rc lk ss rw sg qc od aw tb md ql dr) (fun v w' => v = some (.int (md x)) ∧ w' = (wd a cB cI cZ gv rn lv rc lk ss rw sg qc od aw tb md ql dr)) := by
  refine KC.of (cc := cX2_modeOf) (maxL := 2) (ret := some .int) (by decide) rfl (Nat.le_of_ble_eq_true rfl) ?_
  intro p e s m below meth c args A Q ls hx hb hml hown hts hK hZ hA hP hD hS hl hri hrv
  have hown : s.vm.findClass RX2 = some m.cls := hown
  have hl : lv_has ls 2 [(0, .ref (a 4)), (1, .int (nI x))] := hl
  have fl_25 := hts (.fieldLink RX2 25 "LockDesk$Queue" "modes" "[I") (by decide +kernel)
  have hin2 : ∀ w ∈ wsX20, w ∈ wsX2_modeOf := by decide +kernel
  refine lv_aload_n hx hb dX2_modeOf_0 rfl (lv_at hl 0 rfl) ?_
  refine va_get (D := G) (ci := 2) (v := .ref (a 14)) (C := RX2) (T := TX2) (N := 7) hx hb hts hin2 hown hK hP 4 rfl rfl 4 (by decide) fl_25 (fun _ h9 => h9) rfl dX2_modeOf_1 ?_
  refine lv_iload_n hx hb dX2_modeOf_4 rfl (lv_at hl 1 rfl) ?_
  refine fw_iald (j := x) (f := md) hx hb hK hP 14 1 rfl rfl (by omega) (by decide) dX2_modeOf_5 ?_
  exact hri _ rfl (md x) _ _ _ _ _ (rfl) (⟨rfl, rfl⟩) hP hD hS dX2_modeOf_6

abbrev rmX2_levelOf : Room := { frames := 0, cells := 0, slots := 0, locals := 0 }
set_option maxHeartbeats 4000000 in
set_option maxRecDepth 100000 in
theorem c_X2_levelOf (l : Launch) (G : va_G) (cB cI cZ : ClassId) (tc : Nat) (a : Nat → Nat) (gv rc qc : Int32) (rn lv lk ss rw sg od aw tb md ql dr : Nat → Int32) (x : Nat) (hx6 : x < 6) : KC l yX2_levelOf wsX2_levelOf rmX2_levelOf G [(cB, .byte), (cI, .int), (cZ, .boolean)] tc [.ref (a 4), .int (nI x)] (wd a cB cI cZ gv rn lv rc lk ss rw sg qc od aw tb md ql dr) (fun v w' => v = some (.int (ql x)) ∧ w' = (wd a cB cI cZ gv rn lv rc lk ss rw sg qc od aw tb md ql dr)) := by
  refine KC.of (cc := cX2_levelOf) (maxL := 2) (ret := some .int) (by decide) rfl (Nat.le_of_ble_eq_true rfl) ?_
  intro p e s m below meth c args A Q ls hx hb hml hown hts hK hZ hA hP hD hS hl hri hrv
  have hown : s.vm.findClass RX2 = some m.cls := hown
  have hl : lv_has ls 2 [(0, .ref (a 4)), (1, .int (nI x))] := hl
  have fl_28 := hts (.fieldLink RX2 28 "LockDesk$Queue" "levels" "[I") (by decide +kernel)
  have hin2 : ∀ w ∈ wsX20, w ∈ wsX2_levelOf := by decide +kernel
  refine lv_aload_n hx hb dX2_levelOf_0 rfl (lv_at hl 0 rfl) ?_
  refine va_get (D := G) (ci := 2) (v := .ref (a 15)) (C := RX2) (T := TX2) (N := 7) hx hb hts hin2 hown hK hP 4 rfl rfl 5 (by decide) fl_28 (fun _ h9 => h9) rfl dX2_levelOf_1 ?_
  refine lv_iload_n hx hb dX2_levelOf_4 rfl (lv_at hl 1 rfl) ?_
  refine fw_iald (j := x) (f := ql) hx hb hK hP 15 1 rfl rfl (by omega) (by decide) dX2_levelOf_5 ?_
  exact hri _ rfl (ql x) _ _ _ _ _ (rfl) (⟨rfl, rfl⟩) hP hD hS dX2_levelOf_6

abbrev rmX2_isDropped : Room := { frames := 0, cells := 0, slots := 0, locals := 0 }
set_option maxHeartbeats 4000000 in
set_option maxRecDepth 100000 in
theorem c_X2_isDropped (l : Launch) (G : va_G) (cB cI cZ : ClassId) (tc : Nat) (a : Nat → Nat) (gv rc qc : Int32) (rn lv lk ss rw sg od aw tb md ql dr : Nat → Int32) (x : Nat) (hx6 : x < 6)(hd : dr x = 0 ∨ dr x = 1) : KC l yX2_isDropped wsX2_isDropped rmX2_isDropped G [(cB, .byte), (cI, .int), (cZ, .boolean)] tc [.ref (a 4), .int (nI x)] (wd a cB cI cZ gv rn lv rc lk ss rw sg qc od aw tb md ql dr) (fun v w' => v = some (.int (dr x)) ∧ w' = (wd a cB cI cZ gv rn lv rc lk ss rw sg qc od aw tb md ql dr)) := by
  refine KC.of (cc := cX2_isDropped) (maxL := 2) (ret := some .boolean) (by decide) rfl (Nat.le_of_ble_eq_true rfl) ?_
  intro p e s m below meth c args A Q ls hx hb hml hown hts hK hZ hA hP hD hS hl hri hrv
  have hown : s.vm.findClass RX2 = some m.cls := hown
  have hl : lv_has ls 2 [(0, .ref (a 4)), (1, .int (nI x))] := hl
  have fl_31 := hts (.fieldLink RX2 31 "LockDesk$Queue" "dropped" "[Z") (by decide +kernel)
  have hin2 : ∀ w ∈ wsX20, w ∈ wsX2_isDropped := by decide +kernel
  refine lv_aload_n hx hb dX2_isDropped_0 rfl (lv_at hl 0 rfl) ?_
  refine va_get (D := G) (ci := 2) (v := .ref (a 16)) (C := RX2) (T := TX2) (N := 7) hx hb hts hin2 hown hK hP 4 rfl rfl 6 (by decide) fl_31 (fun _ h9 => h9) rfl dX2_isDropped_1 ?_
  refine lv_iload_n hx hb dX2_isDropped_4 rfl (lv_at hl 1 rfl) ?_
  refine fw_zald (j := x) (f := dr) hx hb hK hP 16 2 rfl rfl (by omega) (by decide) dX2_isDropped_5 ?_
  exact hri _ rfl (dr x) _ _ _ _ _ (px_nz hd) (⟨rfl, rfl⟩) hP hD hS dX2_isDropped_6
