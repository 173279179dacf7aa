abbrev rmX4_inTheWay : Room := { frames := 3, cells := 0, slots := 0, locals := 68 }
set_option maxHeartbeats 4000000 in
set_option maxRecDepth 100000 in
theorem c_X4_inTheWay (l : Launch) (G : va_G) (cB cI cZ : ClassId) (tc : Nat) (a : Nat → Nat) (rn lv lk ss rw sg od aw tb md ql dr : Nat → Int32) (g : Nat) (r : Nat) (n : Nat) (x : Nat) (y : Nat) (k : Nat) (pl : Nat) (hx6 : x < 6) (hy8 : y < 8) (hk9 : k < 9) (hpl : pl ≤ 6) (hI : px_I g n od aw tb md ql dr) : KC l yX4_inTheWay wsX4_inTheWay rmX4_inTheWay G [(cB, .byte), (cI, .int), (cZ, .boolean)] tc [.ref (a 0), .int (nI x), .int (nI y), .int (nI k), .int (nI pl)] (wd a cB cI cZ (nI g) rn lv (nI r) lk ss rw sg (nI n) od aw tb md ql dr) (fun v w' => v = some (.int (px_way n lv od aw tb md dr x y k pl)) ∧ w' = (wd a cB cI cZ (nI g) rn lv (nI r) lk ss rw sg (nI n) od aw tb md ql dr)) := by
  refine KC.of (cc := cX4_inTheWay) (maxL := 7) (ret := some .int) (by decide) rfl (Nat.le_of_ble_eq_true rfl) ?_
  intro p e s m below meth c args A Q ls hx hb hml hown hts hK hZ hA hP hD hS hl hri hrv
  have hown : s.vm.findClass RX4 = some m.cls := hown
  have hl : lv_has ls 7 [(0, .ref (a 0)), (1, .int (nI x)), (2, .int (nI y)), (3, .int (nI k)), (4, .int (nI pl))] := hl
  have fl_19 := hts (.fieldLink RX4 19 "LockDesk" "holdings" "LLockDesk$Holdings;") (by decide +kernel)
  have fl_33 := hts (.fieldLink RX4 33 "LockDesk" "queue" "LLockDesk$Queue;") (by decide +kernel)
  have hin4 : ∀ w ∈ wsX40, w ∈ wsX4_inTheWay := by decide +kernel
  have hI0 := hI
  obtain ⟨hg, hn6, hod, htb, hmd, hdr, hql, hmk⟩ := hI
  refine lv_iconst (v := 0) hx hb dX4_inTheWay_0 (by decide) ?_
  refine lv_istore (lv' := [(5, .int 0), (0, .ref (a 0)), (1, .int (nI x)), (2, .int (nI y)), (3, .int (nI k)), (4, .int (nI pl))]) hx hb dX4_inTheWay_1 hl (by decide) rfl (fun ls hl => ?_)
  refine lv_iconst (v := 0) hx hb dX4_inTheWay_3 (by decide) ?_
  refine lv_istore (lv' := [(6, .int 0), (5, .int 0), (0, .ref (a 0)), (1, .int (nI x)), (2, .int (nI y)), (3, .int (nI k)), (4, .int (nI pl))]) hx hb dX4_inTheWay_4 hl (by decide) rfl (fun ls hl => ?_)
  have lp_6 : ∀ (nf : Nat) (t : Nat) (acc : Int32) (H : Heap) (locs : List Loc) (ls : Array Slot), 6 - t < nf → (t ≤ 6) → (acc = fw_it (px_wayS lv x y k) t 0) → va_P G vwCl (wd a cB cI cZ (nI g) rn lv (nI r) lk ss rw sg (nI n) od aw tb md ql dr) H → va_D A (wd a cB cI cZ (nI g) rn lv (nI r) lk ss rw sg (nI n) od aw tb md ql dr) → va_S A s.heap H locs → lv_has ls 7 [(6, .int (nI t)), (5, .int acc), (0, .ref (a 0)), (1, .int (nI x)), (2, .int (nI y)), (3, .int (nI k)), (4, .int (nI pl))] → W p l e rmX4_inTheWay s m args below meth c H locs 0 0 Q (F0 m 6 ls []) := by
    intro nf
    induction nf with
    | zero => intro t acc H locs ls h0; exact absurd h0 (Nat.not_lt_zero _)
    | succ nf_6 ih_6 =>
      intro t acc H locs ls hn_6 ht hacc hP hD hS hl
      refine lv_iload hx hb dX4_inTheWay_6 (lv_at hl 0 rfl) ?_
      refine lv_bipush (v := 6) hx hb dX4_inTheWay_8 (by decide) ?_
      refine lv_icmp_ge (tgt := 48) hx hb dX4_inTheWay_10 (by decide) (fun c_10 => ?_) (fun c_10 => ?_)
      · have hE : t = 6 := by
          have := fw_nle (a := 6) c_10 (by omega) (by omega)
          omega
        refine lv_iload hx hb dX4_inTheWay_48 (lv_at hl 1 rfl) ?_
        refine lv_aload_n hx hb dX4_inTheWay_50 rfl (lv_at hl 2 rfl) ?_
        refine va_get (D := G) (ci := 4) (v := .ref (a 4)) (C := RX4) (T := TX4) (N := 4) hx hb hts hin4 hown hK hP 0 rfl rfl 3 (by decide) fl_33 (fun _ h9 => h9) rfl dX4_inTheWay_51 ?_
        refine lv_iload_n hx hb dX4_inTheWay_54 rfl (lv_at hl 4 rfl) ?_
        refine lv_iload_n hx hb dX4_inTheWay_55 rfl (lv_at hl 5 rfl) ?_
        refine lv_iload hx hb dX4_inTheWay_56 (lv_at hl 6 rfl) ?_
        refine kV (As := [.int (nI y), .int (nI k), .int (nI pl)]) (rest := [.int acc]) ⟨hx, hb, hml, hown, hts⟩ (c_X2_earlierAgainst l G cB cI cZ tc a (nI g) (nI r) rn lv lk ss rw sg od aw tb md ql dr n (nI y) k pl hn6 hk9 hpl hod) (cwV 3 hts gX4_inTheWay_X2_earlierAgainst rfl rfl rfl (by decide +kernel) ⟨by decide, by decide⟩) hK hZ hA hP hD hS 4 2 rfl rfl rfl hl.1 rfl (Nat.le_of_ble_eq_true rfl) dX4_inTheWay_58 ⟨Nat.zero_le _, Nat.zero_le _⟩ (fun v w' H locs hp hP hD hS => ?_)
        obtain ⟨rfl, rfl⟩ := hp
        have hP : va_P G vwCl (wd a cB cI cZ (nI g) rn lv (nI r) lk ss rw sg (nI n) od aw tb md ql dr) H := hP
        have hD : va_D A (wd a cB cI cZ (nI g) rn lv (nI r) lk ss rw sg (nI n) od aw tb md ql dr) := hD
        refine W.eq (g2 := F0 m 61 ls [.int (px_ea n od aw tb md dr (nI y) k pl), .int acc]) rfl ?_
        refine lv_ior hx hb dX4_inTheWay_61 ?_
        exact hri _ rfl (acc ||| (px_ea n od aw tb md dr (nI y) k pl)) _ _ _ _ _ (rfl) (⟨by rw [hacc, hE]; rfl, rfl⟩) hP hD hS dX4_inTheWay_62
      · have hL : t < 6 := by
          have := fw_nlt (a := 6) c_10 (by omega) (by omega)
          omega
        refine lv_iload hx hb dX4_inTheWay_13 (lv_at hl 0 rfl) ?_
        refine lv_iload_n hx hb dX4_inTheWay_15 rfl (lv_at hl 3 rfl) ?_
        refine lv_icmp_eq (tgt := 42) hx hb dX4_inTheWay_16 (by decide) (fun c_16 => ?_) (fun c_16 => ?_)
        · have c_16 : t = x := (nI_eq (by omega) (by omega)).mp c_16
          refine lv_iinc (v := nI (t + 1)) (lv' := [(6, .int (nI (t + 1))), (5, .int acc), (0, .ref (a 0)), (1, .int (nI x)), (2, .int (nI y)), (3, .int (nI k)), (4, .int (nI pl))]) hx hb dX4_inTheWay_42 hl (k := 0) rfl (fw_inc _) (by decide) rfl (fun ls hl => ?_)
          refine lv_goto (tgt := 6) hx hb dX4_inTheWay_45 (by decide) ?_
          exact ih_6 (t + 1) acc _ _ _ (by omega) (by omega) (by rw [fw_itS, ← hacc]; simp [px_wayS, c_16]) hP hD hS (lv_sub hl [0, 1, 2, 3, 4, 5, 6] rfl)
        · have c_16 : ¬ t = x := fun q => c_16 (by rw [q])
          refine lv_aload_n hx hb dX4_inTheWay_19 rfl (lv_at hl 2 rfl) ?_
          refine va_get (D := G) (ci := 4) (v := .ref (a 2)) (C := RX4) (T := TX4) (N := 4) hx hb hts hin4 hown hK hP 0 rfl rfl 1 (by decide) fl_19 (fun _ h9 => h9) rfl dX4_inTheWay_20 ?_
          refine lv_iload hx hb dX4_inTheWay_23 (lv_at hl 0 rfl) ?_
          refine lv_iload_n hx hb dX4_inTheWay_25 rfl (lv_at hl 4 rfl) ?_
          refine lv_iload_n hx hb dX4_inTheWay_26 rfl (lv_at hl 5 rfl) ?_
          refine kV (As := [.int (nI t), .int (nI y), .int (nI k)]) (rest := []) ⟨hx, hb, hml, hown, hts⟩ (c_X0_standAgainst l G cB cI cZ tc a (nI g) (nI r) (nI n) rn lv lk ss rw sg od aw tb md ql dr t y k hL hy8 hk9) (cwV 3 hts gX4_inTheWay_X0_standAgainst rfl rfl rfl (by decide +kernel) ⟨by decide, by decide⟩) hK hZ hA hP hD hS 2 0 rfl rfl rfl hl.1 rfl (Nat.le_of_ble_eq_true rfl) dX4_inTheWay_27 ⟨Nat.zero_le _, Nat.zero_le _⟩ (fun v w' H locs hp hP hD hS => ?_)
          obtain ⟨rfl, rfl⟩ := hp
          have hP : va_P G vwCl (wd a cB cI cZ (nI g) rn lv (nI r) lk ss rw sg (nI n) od aw tb md ql dr) H := hP
          have hD : va_D A (wd a cB cI cZ (nI g) rn lv (nI r) lk ss rw sg (nI n) od aw tb md ql dr) := hD
          refine W.eq (g2 := F0 m 30 ls [.int (fw_b (px_sa lv t y k))]) rfl ?_
          refine lv_if_eq (tgt := 42) hx hb dX4_inTheWay_30 (by decide) (fun c_30 => ?_) (fun c_30 => ?_)
          · have c_30 := fw_b0.mp c_30
            refine lv_iinc (v := nI (t + 1)) (lv' := [(6, .int (nI (t + 1))), (5, .int acc), (0, .ref (a 0)), (1, .int (nI x)), (2, .int (nI y)), (3, .int (nI k)), (4, .int (nI pl))]) hx hb dX4_inTheWay_42 hl (k := 0) rfl (fw_inc _) (by decide) rfl (fun ls hl => ?_)
            refine lv_goto (tgt := 6) hx hb dX4_inTheWay_45 (by decide) ?_
            exact ih_6 (t + 1) acc _ _ _ (by omega) (by omega) (by rw [fw_itS, ← hacc]; simp [px_wayS, c_16, c_30]) hP hD hS (lv_sub hl [0, 1, 2, 3, 4, 5, 6] rfl)
          · have c_30 := fw_b1.mp c_30
            refine lv_iload hx hb dX4_inTheWay_33 (lv_at hl 1 rfl) ?_
            refine lv_iconst (v := 1) hx hb dX4_inTheWay_35 (by decide) ?_
            refine lv_iload hx hb dX4_inTheWay_36 (lv_at hl 0 rfl) ?_
            refine lv_ishl hx hb dX4_inTheWay_38 ?_
            refine lv_ior hx hb dX4_inTheWay_39 ?_
            refine lv_istore (lv' := [(5, .int (acc ||| (1 <<< ((nI t) &&& 31)))), (6, .int (nI t)), (0, .ref (a 0)), (1, .int (nI x)), (2, .int (nI y)), (3, .int (nI k)), (4, .int (nI pl))]) hx hb dX4_inTheWay_40 hl (by decide) rfl (fun ls hl => ?_)
            refine lv_iinc (v := nI (t + 1)) (lv' := [(6, .int (nI (t + 1))), (5, .int (acc ||| (1 <<< ((nI t) &&& 31)))), (0, .ref (a 0)), (1, .int (nI x)), (2, .int (nI y)), (3, .int (nI k)), (4, .int (nI pl))]) hx hb dX4_inTheWay_42 hl (k := 1) rfl (fw_inc _) (by decide) rfl (fun ls hl => ?_)
            refine lv_goto (tgt := 6) hx hb dX4_inTheWay_45 (by decide) ?_
            exact ih_6 (t + 1) (acc ||| (1 <<< ((nI t) &&& 31))) _ _ _ (by omega) (by omega) (by rw [fw_itS, ← hacc]; simp [px_wayS, c_16, c_30]) hP hD hS (lv_sub hl [0, 1, 2, 3, 4, 5, 6] rfl)
  exact lp_6 _ 0 0 _ _ _ (Nat.lt_succ_self _) (by omega) (rfl) hP hD hS (lv_sub hl [0, 1, 2, 3, 4, 5, 6] rfl)

abbrev rmX4_waitsOn : Room := { frames := 4, cells := 0, slots := 0, locals := 94 }
set_option maxHeartbeats 4000000 in
set_option maxRecDepth 100000 in
theorem c_X4_waitsOn (l : Launch) (G : va_G) (cB cI cZ : ClassId) (tc : Nat) (a : Nat → Nat) (rn lv lk ss rw sg od aw tb md ql dr : Nat → Int32) (g : Nat) (r : Nat) (n : Nat) (x1 : Int32) (hI : px_I g n od aw tb md ql dr) : KC l yX4_waitsOn wsX4_waitsOn rmX4_waitsOn G [(cB, .byte), (cI, .int), (cZ, .boolean)] tc [.ref (a 0), .int x1] (wd a cB cI cZ (nI g) rn lv (nI r) lk ss rw sg (nI n) od aw tb md ql dr) (fun v w' => v = some (.int (px_wo g n rn lv od aw tb md dr x1)) ∧ w' = (wd a cB cI cZ (nI g) rn lv (nI r) lk ss rw sg (nI n) od aw tb md ql dr)) := by
  refine KC.of (cc := cX4_waitsOn) (maxL := 4) (ret := some .int) (by decide) rfl (Nat.le_of_ble_eq_true rfl) ?_
  intro p e s m below meth c args A Q ls hx hb hml hown hts hK hZ hA hP hD hS hl hri hrv
  have hown : s.vm.findClass RX4 = some m.cls := hown
  have hl : lv_has ls 4 [(0, .ref (a 0)), (1, .int x1)] := hl
  have fl_10 := hts (.fieldLink RX4 10 "LockDesk" "numbers" "LLockDesk$Numbers;") (by decide +kernel)
  have fl_33 := hts (.fieldLink RX4 33 "LockDesk" "queue" "LLockDesk$Queue;") (by decide +kernel)
  have hin4 : ∀ w ∈ wsX40, w ∈ wsX4_waitsOn := by decide +kernel
  have hI0 := hI
  obtain ⟨hg, hn6, hod, htb, hmd, hdr, hql, hmk⟩ := hI
  refine lv_aload_n hx hb dX4_waitsOn_0 rfl (lv_at hl 0 rfl) ?_
  refine va_get (D := G) (ci := 4) (v := .ref (a 4)) (C := RX4) (T := TX4) (N := 4) hx hb hts hin4 hown hK hP 0 rfl rfl 3 (by decide) fl_33 (fun _ h9 => h9) rfl dX4_waitsOn_1 ?_
  refine lv_iload_n hx hb dX4_waitsOn_4 rfl (lv_at hl 1 rfl) ?_
  refine kV (As := [.int x1]) (rest := []) ⟨hx, hb, hml, hown, hts⟩ (c_X2_placeOf l G cB cI cZ tc a (nI g) (nI r) rn lv lk ss rw sg od aw tb md ql dr n x1 hn6) (cwV 1 hts gX4_waitsOn_X2_placeOf rfl rfl rfl (by decide +kernel) ⟨by decide, by decide⟩) hK hZ hA hP hD hS 4 2 rfl rfl rfl hl.1 rfl (Nat.le_of_ble_eq_true rfl) dX4_waitsOn_5 ⟨Nat.zero_le _, Nat.zero_le _⟩ (fun v w' H locs hp hP hD hS => ?_)
  obtain ⟨rfl, rfl⟩ := hp
  have hP : va_P G vwCl (wd a cB cI cZ (nI g) rn lv (nI r) lk ss rw sg (nI n) od aw tb md ql dr) H := hP
  have hD : va_D A (wd a cB cI cZ (nI g) rn lv (nI r) lk ss rw sg (nI n) od aw tb md ql dr) := hD
  refine W.eq (g2 := F0 m 8 ls [.int (px_ix (px_pl n od x1))]) rfl ?_
  refine lv_istore_n (lv' := [(2, .int (px_ix (px_pl n od x1))), (0, .ref (a 0)), (1, .int x1)]) hx hb dX4_waitsOn_8 rfl hl (by decide) rfl (fun ls hl => ?_)
  refine lv_iload_n hx hb dX4_waitsOn_9 rfl (lv_at hl 0 rfl) ?_
  refine lv_iconst (v := (-1)) hx hb dX4_waitsOn_10 (by decide) ?_
  refine lv_icmp_ne (tgt := 16) hx hb dX4_waitsOn_11 (by decide) (fun c_11 => ?_) (fun c_11 => ?_)
  · obtain ⟨q, c_11⟩ := px_ix_some c_11
    have c_11 : px_pl n od x1 = some q := c_11
    have hq : q < n := px_fst_lt c_11
    obtain ⟨x, hx6, ex⟩ := hod q hq
    have ex1 : od q = x1 := by simpa using px_fst_sat c_11
    rw [ex] at ex1
    subst ex1
    rw [c_11] at hl
    have hl : lv_has ls 4 [(2, .int (nI q)), (0, .ref (a 0)), (1, .int (nI x))] := hl
    have cl1 : (nI x).toNatClampNeg = x := nI_clamp (by omega)
    refine lv_aload_n hx hb dX4_waitsOn_16 rfl (lv_at hl 1 rfl) ?_
    refine va_get (D := G) (ci := 4) (v := .ref (a 4)) (C := RX4) (T := TX4) (N := 4) hx hb hts hin4 hown hK hP 0 rfl rfl 3 (by decide) fl_33 (fun _ h9 => h9) rfl dX4_waitsOn_17 ?_
    refine lv_iload_n hx hb dX4_waitsOn_20 rfl (lv_at hl 2 rfl) ?_
    refine kV (As := [.int (nI x)]) (rest := []) ⟨hx, hb, hml, hown, hts⟩ (c_X2_isForNumber l G cB cI cZ tc a (nI g) (nI r) (nI n) rn lv lk ss rw sg od aw tb md ql dr x hx6) (cwV 1 hts gX4_waitsOn_X2_isForNumber rfl rfl rfl (by decide +kernel) ⟨by decide, by decide⟩) hK hZ hA hP hD hS 4 2 rfl rfl rfl hl.1 rfl (Nat.le_of_ble_eq_true rfl) dX4_waitsOn_21 ⟨Nat.zero_le _, Nat.zero_le _⟩ (fun v w' H locs hp hP hD hS => ?_)
    obtain ⟨rfl, rfl⟩ := hp
    have hP : va_P G vwCl (wd a cB cI cZ (nI g) rn lv (nI r) lk ss rw sg (nI n) od aw tb md ql dr) H := hP
    have hD : va_D A (wd a cB cI cZ (nI g) rn lv (nI r) lk ss rw sg (nI n) od aw tb md ql dr) := hD
    refine W.eq (g2 := F0 m 24 ls [.int (fw_b (!decide (aw x = 0)))]) rfl ?_
    refine lv_if_eq (tgt := 56) hx hb dX4_waitsOn_24 (by decide) (fun c_24 => ?_) (fun c_24 => ?_)
    · have c_24 := fw_b0.mp c_24
      have c_24 : aw x = 0 := by simpa using c_24
      refine lv_aload_n hx hb dX4_waitsOn_56 rfl (lv_at hl 1 rfl) ?_
      refine va_get (D := G) (ci := 4) (v := .ref (a 4)) (C := RX4) (T := TX4) (N := 4) hx hb hts hin4 hown hK hP 0 rfl rfl 3 (by decide) fl_33 (fun _ h9 => h9) rfl dX4_waitsOn_57 ?_
      refine lv_iload_n hx hb dX4_waitsOn_60 rfl (lv_at hl 2 rfl) ?_
      refine kV (As := [.int (nI x)]) (rest := []) ⟨hx, hb, hml, hown, hts⟩ (c_X2_isDropped l G cB cI cZ tc a (nI g) (nI r) (nI n) rn lv lk ss rw sg od aw tb md ql dr x hx6 (hdr x hx6)) (cwV 1 hts gX4_waitsOn_X2_isDropped rfl rfl rfl (by decide +kernel) ⟨by decide, by decide⟩) hK hZ hA hP hD hS 4 2 rfl rfl rfl hl.1 rfl (Nat.le_of_ble_eq_true rfl) dX4_waitsOn_61 ⟨Nat.zero_le _, Nat.zero_le _⟩ (fun v w' H locs hp hP hD hS => ?_)
      obtain ⟨rfl, rfl⟩ := hp
      have hP : va_P G vwCl (wd a cB cI cZ (nI g) rn lv (nI r) lk ss rw sg (nI n) od aw tb md ql dr) H := hP
      have hD : va_D A (wd a cB cI cZ (nI g) rn lv (nI r) lk ss rw sg (nI n) od aw tb md ql dr) := hD
      refine W.eq (g2 := F0 m 64 ls [.int (dr x)]) rfl ?_
      refine lv_if_eq (tgt := 69) hx hb dX4_waitsOn_64 (by decide) (fun c_64 => ?_) (fun c_64 => ?_)
      · refine lv_aload_n hx hb dX4_waitsOn_69 rfl (lv_at hl 1 rfl) ?_
        refine lv_iload_n hx hb dX4_waitsOn_70 rfl (lv_at hl 2 rfl) ?_
        refine lv_aload_n hx hb dX4_waitsOn_71 rfl (lv_at hl 1 rfl) ?_
        refine va_get (D := G) (ci := 4) (v := .ref (a 4)) (C := RX4) (T := TX4) (N := 4) hx hb hts hin4 hown hK hP 0 rfl rfl 3 (by decide) fl_33 (fun _ h9 => h9) rfl dX4_waitsOn_72 ?_
        refine lv_iload_n hx hb dX4_waitsOn_75 rfl (lv_at hl 2 rfl) ?_
        refine kV (As := [.int (nI x)]) (rest := [.int (nI x), .ref (a 0)]) ⟨hx, hb, hml, hown, hts⟩ (c_X2_tableOf l G cB cI cZ tc a (nI g) (nI r) (nI n) rn lv lk ss rw sg od aw tb md ql dr x hx6) (cwV 1 hts gX4_waitsOn_X2_tableOf rfl rfl rfl (by decide +kernel) ⟨by decide, by decide⟩) hK hZ hA hP hD hS 4 2 rfl rfl rfl hl.1 rfl (Nat.le_of_ble_eq_true rfl) dX4_waitsOn_76 ⟨Nat.zero_le _, Nat.zero_le _⟩ (fun v w' H locs hp hP hD hS => ?_)
        obtain ⟨rfl, rfl⟩ := hp
        have hP : va_P G vwCl (wd a cB cI cZ (nI g) rn lv (nI r) lk ss rw sg (nI n) od aw tb md ql dr) H := hP
        have hD : va_D A (wd a cB cI cZ (nI g) rn lv (nI r) lk ss rw sg (nI n) od aw tb md ql dr) := hD
        refine W.eq (g2 := F0 m 79 ls [.int (tb x), .int (nI x), .ref (a 0)]) rfl ?_
        refine lv_aload_n hx hb dX4_waitsOn_79 rfl (lv_at hl 1 rfl) ?_
        refine va_get (D := G) (ci := 4) (v := .ref (a 4)) (C := RX4) (T := TX4) (N := 4) hx hb hts hin4 hown hK hP 0 rfl rfl 3 (by decide) fl_33 (fun _ h9 => h9) rfl dX4_waitsOn_80 ?_
        refine lv_iload_n hx hb dX4_waitsOn_83 rfl (lv_at hl 2 rfl) ?_
        refine kV (As := [.int (nI x)]) (rest := [.int (tb x), .int (nI x), .ref (a 0)]) ⟨hx, hb, hml, hown, hts⟩ (c_X2_modeOf l G cB cI cZ tc a (nI g) (nI r) (nI n) rn lv lk ss rw sg od aw tb md ql dr x hx6) (cwV 1 hts gX4_waitsOn_X2_modeOf rfl rfl rfl (by decide +kernel) ⟨by decide, by decide⟩) hK hZ hA hP hD hS 4 2 rfl rfl rfl hl.1 rfl (Nat.le_of_ble_eq_true rfl) dX4_waitsOn_84 ⟨Nat.zero_le _, Nat.zero_le _⟩ (fun v w' H locs hp hP hD hS => ?_)
        obtain ⟨rfl, rfl⟩ := hp
        have hP : va_P G vwCl (wd a cB cI cZ (nI g) rn lv (nI r) lk ss rw sg (nI n) od aw tb md ql dr) H := hP
        have hD : va_D A (wd a cB cI cZ (nI g) rn lv (nI r) lk ss rw sg (nI n) od aw tb md ql dr) := hD
        refine W.eq (g2 := F0 m 87 ls [.int (md x), .int (tb x), .int (nI x), .ref (a 0)]) rfl ?_
        obtain ⟨y, hy8, ey⟩ := htb x hx6
        obtain ⟨k, hk9, ek⟩ := hmd x hx6
        rw [ey, ek]
        refine lv_iload_n hx hb dX4_waitsOn_87 rfl (lv_at hl 0 rfl) ?_
        refine kV (As := [.int (nI x), .int (nI y), .int (nI k), .int (nI q)]) (rest := []) ⟨hx, hb, hml, hown, hts⟩ (c_X4_inTheWay l G cB cI cZ tc a rn lv lk ss rw sg od aw tb md ql dr g r n x y k q hx6 hy8 hk9 (by omega) hI0) (cwV 4 hts gX4_waitsOn_X4_inTheWay rfl rfl rfl (by decide +kernel) ⟨by decide, by decide⟩) hK hZ hA hP hD hS 0 4 rfl rfl rfl hl.1 rfl (Nat.le_of_ble_eq_true rfl) dX4_waitsOn_88 ⟨Nat.zero_le _, Nat.zero_le _⟩ (fun v w' H locs hp hP hD hS => ?_)
        obtain ⟨rfl, rfl⟩ := hp
        have hP : va_P G vwCl (wd a cB cI cZ (nI g) rn lv (nI r) lk ss rw sg (nI n) od aw tb md ql dr) H := hP
        have hD : va_D A (wd a cB cI cZ (nI g) rn lv (nI r) lk ss rw sg (nI n) od aw tb md ql dr) := hD
        refine W.eq (g2 := F0 m 91 ls [.int (px_way n lv od aw tb md dr x y k q)]) rfl ?_
        exact hri _ rfl (px_way n lv od aw tb md dr x y k q) _ _ _ _ _ (rfl) (⟨by simp only [px_wo, c_11, cl1, if_pos c_24, if_pos c_64, ey, ek, nI_clamp (show y < 2 ^ 31 by omega), nI_clamp (show k < 2 ^ 31 by omega)], rfl⟩) hP hD hS dX4_waitsOn_91
      · refine lv_iconst (v := 0) hx hb dX4_waitsOn_67 (by decide) ?_
        exact hri _ rfl 0 _ _ _ _ _ (rfl) (⟨by simp only [px_wo, c_11, cl1, if_pos c_24, if_neg c_64], rfl⟩) hP hD hS dX4_waitsOn_68
    · have c_24 := fw_b1.mp c_24
      have c_24 : ¬ aw x = 0 := by simpa using c_24
      refine lv_aload_n hx hb dX4_waitsOn_27 rfl (lv_at hl 1 rfl) ?_
      refine va_get (D := G) (ci := 4) (v := .ref (a 1)) (C := RX4) (T := TX4) (N := 4) hx hb hts hin4 hown hK hP 0 rfl rfl 0 (by decide) fl_10 (fun _ h9 => h9) rfl dX4_waitsOn_28 ?_
      refine lv_aload_n hx hb dX4_waitsOn_31 rfl (lv_at hl 1 rfl) ?_
      refine va_get (D := G) (ci := 4) (v := .ref (a 4)) (C := RX4) (T := TX4) (N := 4) hx hb hts hin4 hown hK hP 0 rfl rfl 3 (by decide) fl_33 (fun _ h9 => h9) rfl dX4_waitsOn_32 ?_
      refine lv_iload_n hx hb dX4_waitsOn_35 rfl (lv_at hl 2 rfl) ?_
      refine kV (As := [.int (nI x)]) (rest := [.ref (a 1)]) ⟨hx, hb, hml, hown, hts⟩ (c_X2_numberOf l G cB cI cZ tc a (nI g) (nI r) (nI n) rn lv lk ss rw sg od aw tb md ql dr x hx6) (cwV 1 hts gX4_waitsOn_X2_numberOf rfl rfl rfl (by decide +kernel) ⟨by decide, by decide⟩) hK hZ hA hP hD hS 4 2 rfl rfl rfl hl.1 rfl (Nat.le_of_ble_eq_true rfl) dX4_waitsOn_36 ⟨Nat.zero_le _, Nat.zero_le _⟩ (fun v w' H locs hp hP hD hS => ?_)
      obtain ⟨rfl, rfl⟩ := hp
      have hP : va_P G vwCl (wd a cB cI cZ (nI g) rn lv (nI r) lk ss rw sg (nI n) od aw tb md ql dr) H := hP
      have hD : va_D A (wd a cB cI cZ (nI g) rn lv (nI r) lk ss rw sg (nI n) od aw tb md ql dr) := hD
      refine W.eq (g2 := F0 m 39 ls [.int (aw x), .ref (a 1)]) rfl ?_
      refine kV (As := [.int (aw x)]) (rest := []) ⟨hx, hb, hml, hown, hts⟩ (c_X1_runnerOf l G cB cI cZ tc a (nI r) (nI n) rn lv lk ss rw sg od aw tb md ql dr g (aw x) hg) (cwV 1 hts gX4_waitsOn_X1_runnerOf rfl rfl rfl (by decide +kernel) ⟨by decide, by decide⟩) hK hZ hA hP hD hS 1 1 rfl rfl rfl hl.1 rfl (Nat.le_of_ble_eq_true rfl) dX4_waitsOn_39 ⟨Nat.zero_le _, Nat.zero_le _⟩ (fun v w' H locs hp hP hD hS => ?_)
      obtain ⟨rfl, rfl⟩ := hp
      have hP : va_P G vwCl (wd a cB cI cZ (nI g) rn lv (nI r) lk ss rw sg (nI n) od aw tb md ql dr) H := hP
      have hD : va_D A (wd a cB cI cZ (nI g) rn lv (nI r) lk ss rw sg (nI n) od aw tb md ql dr) := hD
      refine W.eq (g2 := F0 m 42 ls [.int (px_run g rn (aw x))]) rfl ?_
      refine lv_istore_n (lv' := [(3, .int (px_run g rn (aw x))), (2, .int (nI q)), (0, .ref (a 0)), (1, .int (nI x))]) hx hb dX4_waitsOn_42 rfl hl (by decide) rfl (fun ls hl => ?_)
      refine lv_iload_n hx hb dX4_waitsOn_43 rfl (lv_at hl 0 rfl) ?_
      refine lv_iconst (v := (-1)) hx hb dX4_waitsOn_44 (by decide) ?_
      refine lv_icmp_ne (tgt := 52) hx hb dX4_waitsOn_45 (by decide) (fun c_45 => ?_) (fun c_45 => ?_)
      · refine lv_iconst (v := 1) hx hb dX4_waitsOn_52 (by decide) ?_
        refine lv_iload_n hx hb dX4_waitsOn_53 rfl (lv_at hl 0 rfl) ?_
        refine lv_ishl hx hb dX4_waitsOn_54 ?_
        exact hri _ rfl (1 <<< ((px_run g rn (aw x)) &&& 31)) _ _ _ _ _ (rfl) (⟨by simp only [px_wo, c_11, cl1, if_neg c_24, if_neg c_45], rfl⟩) hP hD hS dX4_waitsOn_55
      · refine lv_iconst (v := 0) hx hb dX4_waitsOn_48 (by decide) ?_
        refine lv_goto (tgt := 55) hx hb dX4_waitsOn_49 (by decide) ?_
        exact hri _ rfl 0 _ _ _ _ _ (rfl) (⟨by simp only [px_wo, c_11, cl1, if_neg c_24, if_pos c_45], rfl⟩) hP hD hS dX4_waitsOn_55
  · have c_11 : px_pl n od x1 = none := px_ix_none hn6 c_11
    refine lv_iconst (v := 0) hx hb dX4_waitsOn_14 (by decide) ?_
    exact hri _ rfl 0 _ _ _ _ _ (rfl) (⟨by rw [px_wo, c_11], rfl⟩) hP hD hS dX4_waitsOn_15

abbrev rmX4_closesRing : Room := { frames := 5, cells := 0, slots := 0, locals := 117 }
set_option maxHeartbeats 4000000 in
set_option maxRecDepth 100000 in
theorem c_X4_closesRing (l : Launch) (G : va_G) (cB cI cZ : ClassId) (tc : Nat) (a : Nat → Nat) (rn lv lk ss rw sg od aw tb md ql dr : Nat → Int32) (g : Nat) (r : Nat) (n : Nat) (x1 : Int32) (x2 : Int32) (hI : px_I g n od aw tb md ql dr) : KC l yX4_closesRing wsX4_closesRing rmX4_closesRing G [(cB, .byte), (cI, .int), (cZ, .boolean)] tc [.ref (a 0), .int x1, .int x2] (wd a cB cI cZ (nI g) rn lv (nI r) lk ss rw sg (nI n) od aw tb md ql dr) (fun v w' => v = some (.int (fw_b (px_cr (px_wo g n rn lv od aw tb md dr) x1 x2))) ∧ w' = (wd a cB cI cZ (nI g) rn lv (nI r) lk ss rw sg (nI n) od aw tb md ql dr)) := by
  refine KC.of (cc := cX4_closesRing) (maxL := 6) (ret := some .boolean) (by decide) rfl (Nat.le_of_ble_eq_true rfl) ?_
  intro p e s m below meth c args A Q ls hx hb hml hown hts hK hZ hA hP hD hS hl hri hrv
  have hown : s.vm.findClass RX4 = some m.cls := hown
  have hl : lv_has ls 6 [(0, .ref (a 0)), (1, .int x1), (2, .int x2)] := hl
  have hI0 := hI
  obtain ⟨hg, hn6, hod, htb, hmd, hdr, hql, hmk⟩ := hI
  refine lv_iload_n hx hb dX4_closesRing_0 rfl (lv_at hl 2 rfl) ?_
  refine lv_istore_n (lv' := [(3, .int x2), (0, .ref (a 0)), (1, .int x1), (2, .int x2)]) hx hb dX4_closesRing_1 rfl hl (by decide) rfl (fun ls hl => ?_)
  refine lv_iconst (v := 0) hx hb dX4_closesRing_2 (by decide) ?_
  refine lv_istore (lv' := [(4, .int 0), (3, .int x2), (0, .ref (a 0)), (1, .int x1), (2, .int x2)]) hx hb dX4_closesRing_3 hl (by decide) rfl (fun ls hl => ?_)
  have lp_5 : ∀ (nf : Nat) (u : Nat) (rr : Int32) (H : Heap) (locs : List Loc) (ls : Array Slot), 6 - u < nf → (u ≤ 6) → (rr = fw_it (px_crO (px_wo g n rn lv od aw tb md dr)) u x2) → va_P G vwCl (wd a cB cI cZ (nI g) rn lv (nI r) lk ss rw sg (nI n) od aw tb md ql dr) H → va_D A (wd a cB cI cZ (nI g) rn lv (nI r) lk ss rw sg (nI n) od aw tb md ql dr) → va_S A s.heap H locs → lv_has ls 6 [(4, .int (nI u)), (3, .int rr), (0, .ref (a 0)), (1, .int x1), (2, .int x2)] → W p l e rmX4_closesRing s m args below meth c H locs 0 0 Q (F0 m 5 ls []) := by
    intro nf
    induction nf with
    | zero => intro u rr H locs ls h0; exact absurd h0 (Nat.not_lt_zero _)
    | succ nf_5 ih_5 =>
      intro u rr H locs ls hn_5 hu hrr hP hD hS hl
      refine lv_iload hx hb dX4_closesRing_5 (lv_at hl 0 rfl) ?_
      refine lv_bipush (v := 6) hx hb dX4_closesRing_7 (by decide) ?_
      refine lv_icmp_ge (tgt := 52) hx hb dX4_closesRing_9 (by decide) (fun c_9 => ?_) (fun c_9 => ?_)
      · have hE : u = 6 := by
          have := fw_nle (a := 6) c_9 (by omega) (by omega)
          omega
        refine lv_iload_n hx hb dX4_closesRing_52 rfl (lv_at hl 1 rfl) ?_
        refine lv_iload_n hx hb dX4_closesRing_53 rfl (lv_at hl 3 rfl) ?_
        refine kS (As := [.int rr, .int x1]) (rest := []) ⟨hx, hb, hml, hown, hts⟩ (c_X4_has l G [(cB, .byte), (cI, .int), (cZ, .boolean)] tc (wd a cB cI cZ (nI g) rn lv (nI r) lk ss rw sg (nI n) od aw tb md ql dr) rr x1) (va_cwS 2 hts gX4_closesRing_X4_has rfl rfl rfl (by decide +kernel) ⟨by decide, by decide⟩) hK hZ hA hP hD hS rfl hl.1 rfl (Nat.le_of_ble_eq_true rfl) dX4_closesRing_54 ⟨Nat.zero_le _, Nat.zero_le _⟩ (fun v w' H locs hp hP hD hS => ?_)
        obtain ⟨rfl, rfl⟩ := hp
        have hP : va_P G vwCl (wd a cB cI cZ (nI g) rn lv (nI r) lk ss rw sg (nI n) od aw tb md ql dr) H := hP
        have hD : va_D A (wd a cB cI cZ (nI g) rn lv (nI r) lk ss rw sg (nI n) od aw tb md ql dr) := hD
        refine W.eq (g2 := F0 m 57 ls [.int (fw_b (px_has rr x1))]) rfl ?_
        exact hri _ rfl (fw_b (px_has rr x1)) _ _ _ _ _ (fw_bn _) (⟨by rw [px_cr, ← hE, ← hrr], rfl⟩) hP hD hS dX4_closesRing_57
      · have hL : u < 6 := by
          have := fw_nlt (a := 6) c_9 (by omega) (by omega)
          omega
        refine lv_iconst (v := 0) hx hb dX4_closesRing_12 (by decide) ?_
        refine lv_istore (lv' := [(5, .int 0), (4, .int (nI u)), (3, .int rr), (0, .ref (a 0)), (1, .int x1), (2, .int x2)]) hx hb dX4_closesRing_13 hl (by decide) rfl (fun ls hl => ?_)
        have lp_15 : ∀ (nf : Nat) (t : Nat) (r2 : Int32) (H : Heap) (locs : List Loc) (ls : Array Slot), 6 - t < nf → (t ≤ 6) → (r2 = fw_it (px_crS (px_wo g n rn lv od aw tb md dr)) t rr) → va_P G vwCl (wd a cB cI cZ (nI g) rn lv (nI r) lk ss rw sg (nI n) od aw tb md ql dr) H → va_D A (wd a cB cI cZ (nI g) rn lv (nI r) lk ss rw sg (nI n) od aw tb md ql dr) → va_S A s.heap H locs → lv_has ls 6 [(5, .int (nI t)), (4, .int (nI u)), (3, .int r2), (0, .ref (a 0)), (1, .int x1), (2, .int x2)] → W p l e rmX4_closesRing s m args below meth c H locs 0 0 Q (F0 m 15 ls []) := by
          intro nf
          induction nf with
          | zero => intro t r2 H locs ls h0; exact absurd h0 (Nat.not_lt_zero _)
          | succ nf_15 ih_15 =>
            intro t r2 H locs ls hn_15 ht hr2 hP hD hS hl
            refine lv_iload hx hb dX4_closesRing_15 (lv_at hl 0 rfl) ?_
            refine lv_bipush (v := 6) hx hb dX4_closesRing_17 (by decide) ?_
            refine lv_icmp_ge (tgt := 46) hx hb dX4_closesRing_19 (by decide) (fun c_19 => ?_) (fun c_19 => ?_)
            · have hE2 : t = 6 := by
                have := fw_nle (a := 6) c_19 (by omega) (by omega)
                omega
              refine lv_iinc (v := nI (u + 1)) (lv' := [(4, .int (nI (u + 1))), (5, .int (nI t)), (3, .int r2), (0, .ref (a 0)), (1, .int x1), (2, .int x2)]) hx hb dX4_closesRing_46 hl (k := 1) rfl (fw_inc _) (by decide) rfl (fun ls hl => ?_)
              refine lv_goto (tgt := 5) hx hb dX4_closesRing_49 (by decide) ?_
              exact ih_5 (u + 1) r2 _ _ _ (by omega) (by omega) (by rw [fw_itS, ← hrr, hr2, hE2]; rfl) hP hD hS (lv_sub hl [0, 2, 3, 4, 5] rfl)
            · have hL2 : t < 6 := by
                have := fw_nlt (a := 6) c_19 (by omega) (by omega)
                omega
              refine lv_iload_n hx hb dX4_closesRing_22 rfl (lv_at hl 2 rfl) ?_
              refine lv_iload hx hb dX4_closesRing_23 (lv_at hl 0 rfl) ?_
              refine kS (As := [.int r2, .int (nI t)]) (rest := []) ⟨hx, hb, hml, hown, hts⟩ (c_X4_has l G [(cB, .byte), (cI, .int), (cZ, .boolean)] tc (wd a cB cI cZ (nI g) rn lv (nI r) lk ss rw sg (nI n) od aw tb md ql dr) r2 (nI t)) (va_cwS 2 hts gX4_closesRing_X4_has rfl rfl rfl (by decide +kernel) ⟨by decide, by decide⟩) hK hZ hA hP hD hS rfl hl.1 rfl (Nat.le_of_ble_eq_true rfl) dX4_closesRing_25 ⟨Nat.zero_le _, Nat.zero_le _⟩ (fun v w' H locs hp hP hD hS => ?_)
              obtain ⟨rfl, rfl⟩ := hp
              have hP : va_P G vwCl (wd a cB cI cZ (nI g) rn lv (nI r) lk ss rw sg (nI n) od aw tb md ql dr) H := hP
              have hD : va_D A (wd a cB cI cZ (nI g) rn lv (nI r) lk ss rw sg (nI n) od aw tb md ql dr) := hD
              refine W.eq (g2 := F0 m 28 ls [.int (fw_b (px_has r2 (nI t)))]) rfl ?_
              refine lv_if_eq (tgt := 40) hx hb dX4_closesRing_28 (by decide) (fun c_28 => ?_) (fun c_28 => ?_)
              · have c_28 := fw_b0.mp c_28
                refine lv_iinc (v := nI (t + 1)) (lv' := [(5, .int (nI (t + 1))), (4, .int (nI u)), (3, .int r2), (0, .ref (a 0)), (1, .int x1), (2, .int x2)]) hx hb dX4_closesRing_40 hl (k := 0) rfl (fw_inc _) (by decide) rfl (fun ls hl => ?_)
                refine lv_goto (tgt := 15) hx hb dX4_closesRing_43 (by decide) ?_
                exact ih_15 (t + 1) r2 _ _ _ (by omega) (by omega) (by rw [fw_itS, ← hr2]; simp [px_crS, c_28]) hP hD hS (lv_sub hl [0, 1, 2, 3, 4, 5] rfl)
              · have c_28 := fw_b1.mp c_28
                refine lv_iload_n hx hb dX4_closesRing_31 rfl (lv_at hl 2 rfl) ?_
                refine lv_aload_n hx hb dX4_closesRing_32 rfl (lv_at hl 3 rfl) ?_
                refine lv_iload hx hb dX4_closesRing_33 (lv_at hl 0 rfl) ?_
                refine kV (As := [.int (nI t)]) (rest := [.int r2]) ⟨hx, hb, hml, hown, hts⟩ (c_X4_waitsOn l G cB cI cZ tc a rn lv lk ss rw sg od aw tb md ql dr g r n (nI t) hI0) (cwV 1 hts gX4_closesRing_X4_waitsOn rfl rfl rfl (by decide +kernel) ⟨by decide, by decide⟩) hK hZ hA hP hD hS 0 4 rfl rfl rfl hl.1 rfl (Nat.le_of_ble_eq_true rfl) dX4_closesRing_35 ⟨Nat.zero_le _, Nat.zero_le _⟩ (fun v w' H locs hp hP hD hS => ?_)
                obtain ⟨rfl, rfl⟩ := hp
                have hP : va_P G vwCl (wd a cB cI cZ (nI g) rn lv (nI r) lk ss rw sg (nI n) od aw tb md ql dr) H := hP
                have hD : va_D A (wd a cB cI cZ (nI g) rn lv (nI r) lk ss rw sg (nI n) od aw tb md ql dr) := hD
                refine W.eq (g2 := F0 m 38 ls [.int (px_wo g n rn lv od aw tb md dr (nI t)), .int r2]) rfl ?_
                refine lv_ior hx hb dX4_closesRing_38 ?_
                refine lv_istore_n (lv' := [(3, .int (r2 ||| (px_wo g n rn lv od aw tb md dr (nI t)))), (5, .int (nI t)), (4, .int (nI u)), (0, .ref (a 0)), (1, .int x1), (2, .int x2)]) hx hb dX4_closesRing_39 rfl hl (by decide) rfl (fun ls hl => ?_)
                refine lv_iinc (v := nI (t + 1)) (lv' := [(5, .int (nI (t + 1))), (3, .int (r2 ||| (px_wo g n rn lv od aw tb md dr (nI t)))), (4, .int (nI u)), (0, .ref (a 0)), (1, .int x1), (2, .int x2)]) hx hb dX4_closesRing_40 hl (k := 1) rfl (fw_inc _) (by decide) rfl (fun ls hl => ?_)
                refine lv_goto (tgt := 15) hx hb dX4_closesRing_43 (by decide) ?_
                exact ih_15 (t + 1) (r2 ||| (px_wo g n rn lv od aw tb md dr (nI t))) _ _ _ (by omega) (by omega) (by rw [fw_itS, ← hr2]; simp [px_crS, c_28]) hP hD hS (lv_sub hl [0, 2, 1, 3, 4, 5] rfl)
        exact lp_15 _ 0 rr _ _ _ (Nat.lt_succ_self _) (by omega) (rfl) hP hD hS (lv_sub hl [0, 1, 2, 3, 4, 5] rfl)
  exact lp_5 _ 0 x2 _ _ _ (Nat.lt_succ_self _) (by omega) (rfl) hP hD hS (lv_sub hl [0, 1, 2, 3, 4] rfl)

abbrev rmX4_wake : Room := { frames := 2, cells := 0, slots := 0, locals := 46 }
set_option maxHeartbeats 4000000 in
set_option maxRecDepth 100000 in
theorem c_X4_wake (l : Launch) (G : va_G) (cB cI cZ : ClassId) (tc : Nat) (a : Nat → Nat) (rn lv lk ss rw sg od aw tb md ql dr : Nat → Int32) (g : Nat) (r : Nat) (n : Nat) (x : Nat) (hx6 : x < 6) (hmm : aw x = 0 → ∃ k : Nat, k < 8 ∧ md x = nI (k + 1)) (hI : px_I g n od aw tb md ql dr) : KC l yX4_wake wsX4_wake rmX4_wake G [(cB, .byte), (cI, .int), (cZ, .boolean)] tc [.ref (a 0), .int (nI x)] (wd a cB cI cZ (nI g) rn lv (nI r) lk ss rw sg (nI n) od aw tb md ql dr) (fun v w' => if aw x = 0 then (if dr x = 0 then ∃ y k z : Nat, y < 8 ∧ k < 8 ∧ z < 8 ∧ tb x = nI y ∧ md x = nI (k + 1) ∧ ql x = nI z ∧ v = some (.int (nI x)) ∧ w' = (wd a cB cI cZ (nI g) rn (upd lv (64 * x + 8 * y + k) (nI z)) (nI r) lk ss rw sg (nI (px_rm n od (nI x)).1) ((px_rm n od (nI x)).2) aw tb md ql dr) else v = some (.int (nI x + 8)) ∧ w' = (wd a cB cI cZ (nI g) rn lv (nI r) lk ss rw sg (nI (px_rm n od (nI x)).1) ((px_rm n od (nI x)).2) aw tb md ql dr)) else v = some (.int (nI x)) ∧ w' = (wd a cB cI cZ (nI g) rn lv (nI r) lk ss rw sg (nI (px_rm n od (nI x)).1) ((px_rm n od (nI x)).2) aw tb md ql dr)) := by
  refine KC.of (cc := cX4_wake) (maxL := 2) (ret := some .int) (by decide) rfl (Nat.le_of_ble_eq_true rfl) ?_
  intro p e s m below meth c args A Q ls hx hb hml hown hts hK hZ hA hP hD hS hl hri hrv
  have hown : s.vm.findClass RX4 = some m.cls := hown
  have hl : lv_has ls 2 [(0, .ref (a 0)), (1, .int (nI x))] := hl
  have fl_19 := hts (.fieldLink RX4 19 "LockDesk" "holdings" "LLockDesk$Holdings;") (by decide +kernel)
  have fl_33 := hts (.fieldLink RX4 33 "LockDesk" "queue" "LLockDesk$Queue;") (by decide +kernel)
  have hin4 : ∀ w ∈ wsX40, w ∈ wsX4_wake := by decide +kernel
  have hI0 := hI
  obtain ⟨hg, hn6, hod, htb, hmd, hdr, hql, hmk⟩ := hI
  refine lv_aload_n hx hb dX4_wake_0 rfl (lv_at hl 0 rfl) ?_
  refine va_get (D := G) (ci := 4) (v := .ref (a 4)) (C := RX4) (T := TX4) (N := 4) hx hb hts hin4 hown hK hP 0 rfl rfl 3 (by decide) fl_33 (fun _ h9 => h9) rfl dX4_wake_1 ?_
  refine lv_iload_n hx hb dX4_wake_4 rfl (lv_at hl 1 rfl) ?_
  refine kV (As := [.int (nI x)]) (rest := []) ⟨hx, hb, hml, hown, hts⟩ (c_X2_remove l G cB cI cZ tc a (nI g) (nI r) rn lv lk ss rw sg od aw tb md ql dr n (nI x) hn6) (cwV 1 hts gX4_wake_X2_remove rfl rfl rfl (by decide +kernel) ⟨by decide, by decide⟩) hK hZ hA hP hD hS 4 2 rfl rfl rfl hl.1 rfl (Nat.le_of_ble_eq_true rfl) dX4_wake_5 ⟨Nat.zero_le _, Nat.zero_le _⟩ (fun v w' H locs hp hP hD hS => ?_)
  obtain ⟨rfl, rfl⟩ := hp
  have hP : va_P G vwCl (wd a cB cI cZ (nI g) rn lv (nI r) lk ss rw sg (nI (px_rm n od (nI x)).1) ((px_rm n od (nI x)).2) aw tb md ql dr) H := hP
  have hD : va_D A (wd a cB cI cZ (nI g) rn lv (nI r) lk ss rw sg (nI (px_rm n od (nI x)).1) ((px_rm n od (nI x)).2) aw tb md ql dr) := hD
  refine W.eq (g2 := F0 m 8 ls []) rfl ?_
  refine lv_aload_n hx hb dX4_wake_8 rfl (lv_at hl 0 rfl) ?_
  refine va_get (D := G) (ci := 4) (v := .ref (a 4)) (C := RX4) (T := TX4) (N := 4) hx hb hts hin4 hown hK hP 0 rfl rfl 3 (by decide) fl_33 (fun _ h9 => h9) rfl dX4_wake_9 ?_
  refine lv_iload_n hx hb dX4_wake_12 rfl (lv_at hl 1 rfl) ?_
  refine kV (As := [.int (nI x)]) (rest := []) ⟨hx, hb, hml, hown, hts⟩ (c_X2_isForNumber l G cB cI cZ tc a (nI g) (nI r) (nI (px_rm n od (nI x)).1) rn lv lk ss rw sg ((px_rm n od (nI x)).2) aw tb md ql dr x hx6) (cwV 1 hts gX4_wake_X2_isForNumber rfl rfl rfl (by decide +kernel) ⟨by decide, by decide⟩) hK hZ hA hP hD hS 4 2 rfl rfl rfl hl.1 rfl (Nat.le_of_ble_eq_true rfl) dX4_wake_13 ⟨Nat.zero_le _, Nat.zero_le _⟩ (fun v w' H locs hp hP hD hS => ?_)
  obtain ⟨rfl, rfl⟩ := hp
  have hP : va_P G vwCl (wd a cB cI cZ (nI g) rn lv (nI r) lk ss rw sg (nI (px_rm n od (nI x)).1) ((px_rm n od (nI x)).2) aw tb md ql dr) H := hP
  have hD : va_D A (wd a cB cI cZ (nI g) rn lv (nI r) lk ss rw sg (nI (px_rm n od (nI x)).1) ((px_rm n od (nI x)).2) aw tb md ql dr) := hD
  refine W.eq (g2 := F0 m 16 ls [.int (fw_b (!decide (aw x = 0)))]) rfl ?_
  refine lv_if_eq (tgt := 21) hx hb dX4_wake_16 (by decide) (fun c_16 => ?_) (fun c_16 => ?_)
  · have c_16 := fw_b0.mp c_16
    have c_16 : aw x = 0 := by simpa using c_16
    refine lv_aload_n hx hb dX4_wake_21 rfl (lv_at hl 0 rfl) ?_
    refine va_get (D := G) (ci := 4) (v := .ref (a 4)) (C := RX4) (T := TX4) (N := 4) hx hb hts hin4 hown hK hP 0 rfl rfl 3 (by decide) fl_33 (fun _ h9 => h9) rfl dX4_wake_22 ?_
    refine lv_iload_n hx hb dX4_wake_25 rfl (lv_at hl 1 rfl) ?_
    refine kV (As := [.int (nI x)]) (rest := []) ⟨hx, hb, hml, hown, hts⟩ (c_X2_isDropped l G cB cI cZ tc a (nI g) (nI r) (nI (px_rm n od (nI x)).1) rn lv lk ss rw sg ((px_rm n od (nI x)).2) aw tb md ql dr x hx6 (hdr x hx6)) (cwV 1 hts gX4_wake_X2_isDropped rfl rfl rfl (by decide +kernel) ⟨by decide, by decide⟩) hK hZ hA hP hD hS 4 2 rfl rfl rfl hl.1 rfl (Nat.le_of_ble_eq_true rfl) dX4_wake_26 ⟨Nat.zero_le _, Nat.zero_le _⟩ (fun v w' H locs hp hP hD hS => ?_)
    obtain ⟨rfl, rfl⟩ := hp
    have hP : va_P G vwCl (wd a cB cI cZ (nI g) rn lv (nI r) lk ss rw sg (nI (px_rm n od (nI x)).1) ((px_rm n od (nI x)).2) aw tb md ql dr) H := hP
    have hD : va_D A (wd a cB cI cZ (nI g) rn lv (nI r) lk ss rw sg (nI (px_rm n od (nI x)).1) ((px_rm n od (nI x)).2) aw tb md ql dr) := hD
    refine W.eq (g2 := F0 m 29 ls [.int (dr x)]) rfl ?_
    refine lv_if_eq (tgt := 37) hx hb dX4_wake_29 (by decide) (fun c_29 => ?_) (fun c_29 => ?_)
    · refine lv_aload_n hx hb dX4_wake_37 rfl (lv_at hl 0 rfl) ?_
      refine va_get (D := G) (ci := 4) (v := .ref (a 2)) (C := RX4) (T := TX4) (N := 4) hx hb hts hin4 hown hK hP 0 rfl rfl 1 (by decide) fl_19 (fun _ h9 => h9) rfl dX4_wake_38 ?_
      refine lv_iload_n hx hb dX4_wake_41 rfl (lv_at hl 1 rfl) ?_
      refine lv_aload_n hx hb dX4_wake_42 rfl (lv_at hl 0 rfl) ?_
      refine va_get (D := G) (ci := 4) (v := .ref (a 4)) (C := RX4) (T := TX4) (N := 4) hx hb hts hin4 hown hK hP 0 rfl rfl 3 (by decide) fl_33 (fun _ h9 => h9) rfl dX4_wake_43 ?_
      refine lv_iload_n hx hb dX4_wake_46 rfl (lv_at hl 1 rfl) ?_
      refine kV (As := [.int (nI x)]) (rest := [.int (nI x), .ref (a 2)]) ⟨hx, hb, hml, hown, hts⟩ (c_X2_levelOf l G cB cI cZ tc a (nI g) (nI r) (nI (px_rm n od (nI x)).1) rn lv lk ss rw sg ((px_rm n od (nI x)).2) aw tb md ql dr x hx6) (cwV 1 hts gX4_wake_X2_levelOf rfl rfl rfl (by decide +kernel) ⟨by decide, by decide⟩) hK hZ hA hP hD hS 4 2 rfl rfl rfl hl.1 rfl (Nat.le_of_ble_eq_true rfl) dX4_wake_47 ⟨Nat.zero_le _, Nat.zero_le _⟩ (fun v w' H locs hp hP hD hS => ?_)
      obtain ⟨rfl, rfl⟩ := hp
      have hP : va_P G vwCl (wd a cB cI cZ (nI g) rn lv (nI r) lk ss rw sg (nI (px_rm n od (nI x)).1) ((px_rm n od (nI x)).2) aw tb md ql dr) H := hP
      have hD : va_D A (wd a cB cI cZ (nI g) rn lv (nI r) lk ss rw sg (nI (px_rm n od (nI x)).1) ((px_rm n od (nI x)).2) aw tb md ql dr) := hD
      refine W.eq (g2 := F0 m 50 ls [.int (ql x), .int (nI x), .ref (a 2)]) rfl ?_
      refine lv_aload_n hx hb dX4_wake_50 rfl (lv_at hl 0 rfl) ?_
      refine va_get (D := G) (ci := 4) (v := .ref (a 4)) (C := RX4) (T := TX4) (N := 4) hx hb hts hin4 hown hK hP 0 rfl rfl 3 (by decide) fl_33 (fun _ h9 => h9) rfl dX4_wake_51 ?_
      refine lv_iload_n hx hb dX4_wake_54 rfl (lv_at hl 1 rfl) ?_
      refine kV (As := [.int (nI x)]) (rest := [.int (ql x), .int (nI x), .ref (a 2)]) ⟨hx, hb, hml, hown, hts⟩ (c_X2_tableOf l G cB cI cZ tc a (nI g) (nI r) (nI (px_rm n od (nI x)).1) rn lv lk ss rw sg ((px_rm n od (nI x)).2) aw tb md ql dr x hx6) (cwV 1 hts gX4_wake_X2_tableOf rfl rfl rfl (by decide +kernel) ⟨by decide, by decide⟩) hK hZ hA hP hD hS 4 2 rfl rfl rfl hl.1 rfl (Nat.le_of_ble_eq_true rfl) dX4_wake_55 ⟨Nat.zero_le _, Nat.zero_le _⟩ (fun v w' H locs hp hP hD hS => ?_)
      obtain ⟨rfl, rfl⟩ := hp
      have hP : va_P G vwCl (wd a cB cI cZ (nI g) rn lv (nI r) lk ss rw sg (nI (px_rm n od (nI x)).1) ((px_rm n od (nI x)).2) aw tb md ql dr) H := hP
      have hD : va_D A (wd a cB cI cZ (nI g) rn lv (nI r) lk ss rw sg (nI (px_rm n od (nI x)).1) ((px_rm n od (nI x)).2) aw tb md ql dr) := hD
      refine W.eq (g2 := F0 m 58 ls [.int (tb x), .int (ql x), .int (nI x), .ref (a 2)]) rfl ?_
      refine lv_aload_n hx hb dX4_wake_58 rfl (lv_at hl 0 rfl) ?_
      refine va_get (D := G) (ci := 4) (v := .ref (a 4)) (C := RX4) (T := TX4) (N := 4) hx hb hts hin4 hown hK hP 0 rfl rfl 3 (by decide) fl_33 (fun _ h9 => h9) rfl dX4_wake_59 ?_
      refine lv_iload_n hx hb dX4_wake_62 rfl (lv_at hl 1 rfl) ?_
      refine kV (As := [.int (nI x)]) (rest := [.int (tb x), .int (ql x), .int (nI x), .ref (a 2)]) ⟨hx, hb, hml, hown, hts⟩ (c_X2_modeOf l G cB cI cZ tc a (nI g) (nI r) (nI (px_rm n od (nI x)).1) rn lv lk ss rw sg ((px_rm n od (nI x)).2) aw tb md ql dr x hx6) (cwV 1 hts gX4_wake_X2_modeOf rfl rfl rfl (by decide +kernel) ⟨by decide, by decide⟩) hK hZ hA hP hD hS 4 2 rfl rfl rfl hl.1 rfl (Nat.le_of_ble_eq_true rfl) dX4_wake_63 ⟨Nat.zero_le _, Nat.zero_le _⟩ (fun v w' H locs hp hP hD hS => ?_)
      obtain ⟨rfl, rfl⟩ := hp
      have hP : va_P G vwCl (wd a cB cI cZ (nI g) rn lv (nI r) lk ss rw sg (nI (px_rm n od (nI x)).1) ((px_rm n od (nI x)).2) aw tb md ql dr) H := hP
      have hD : va_D A (wd a cB cI cZ (nI g) rn lv (nI r) lk ss rw sg (nI (px_rm n od (nI x)).1) ((px_rm n od (nI x)).2) aw tb md ql dr) := hD
      refine W.eq (g2 := F0 m 66 ls [.int (md x), .int (tb x), .int (ql x), .int (nI x), .ref (a 2)]) rfl ?_
      obtain ⟨y, hy8, ey⟩ := htb x hx6
      obtain ⟨k, hk8, ek⟩ := hmm c_16
      obtain ⟨z, hz8, ez⟩ := hql x hx6
      rw [ey, ek, ez]
      refine kV (As := [.int (nI x), .int (nI z), .int (nI y), .int (nI (k + 1))]) (rest := []) ⟨hx, hb, hml, hown, hts⟩ (c_X0_take l G cB cI cZ tc a (nI g) (nI r) (nI (px_rm n od (nI x)).1) rn lv lk ss rw sg ((px_rm n od (nI x)).2) aw tb md ql dr x y k z hx6 hy8 hk8 hz8) (cwV 4 hts gX4_wake_X0_take rfl rfl rfl (by decide +kernel) ⟨by decide, by decide⟩) hK hZ hA hP hD hS 2 0 rfl rfl rfl hl.1 rfl (Nat.le_of_ble_eq_true rfl) dX4_wake_66 ⟨Nat.zero_le _, Nat.zero_le _⟩ (fun v w' H locs hp hP hD hS => ?_)
      obtain ⟨rfl, rfl⟩ := hp
      have hP : va_P G vwCl (wd a cB cI cZ (nI g) rn (upd lv (64 * x + 8 * y + k) (nI z)) (nI r) lk ss rw sg (nI (px_rm n od (nI x)).1) ((px_rm n od (nI x)).2) aw tb md ql dr) H := hP
      have hD : va_D A (wd a cB cI cZ (nI g) rn (upd lv (64 * x + 8 * y + k) (nI z)) (nI r) lk ss rw sg (nI (px_rm n od (nI x)).1) ((px_rm n od (nI x)).2) aw tb md ql dr) := hD
      refine W.eq (g2 := F0 m 69 ls []) rfl ?_
      refine lv_iload_n hx hb dX4_wake_69 rfl (lv_at hl 1 rfl) ?_
      exact hri _ rfl (nI x) _ _ _ _ _ (rfl) (by rw [if_pos c_16, if_pos c_29]; exact ⟨y, k, z, hy8, hk8, hz8, ey, ek, ez, rfl, rfl⟩) hP hD hS dX4_wake_70
    · refine lv_iload_n hx hb dX4_wake_32 rfl (lv_at hl 1 rfl) ?_
      refine lv_bipush (v := 8) hx hb dX4_wake_33 (by decide) ?_
      refine lv_iadd hx hb dX4_wake_35 ?_
      exact hri _ rfl ((nI x) + 8) _ _ _ _ _ (rfl) (by rw [if_pos c_16, if_neg c_29]; exact ⟨rfl, rfl⟩) hP hD hS dX4_wake_36
  · have c_16 := fw_b1.mp c_16
    have c_16 : ¬ aw x = 0 := by simpa using c_16
    refine lv_iload_n hx hb dX4_wake_19 rfl (lv_at hl 1 rfl) ?_
    exact hri _ rfl (nI x) _ _ _ _ _ (rfl) (by rw [if_neg c_16]; exact ⟨rfl, rfl⟩) hP hD hS dX4_wake_20
