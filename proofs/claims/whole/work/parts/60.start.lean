set_option maxHeartbeats 4000000 in
set_option maxRecDepth 100000 in
/-- the law's loop -/
theorem law_loop {p : Program} {e : Env} {s : State} {m : MethodId} {below : List Frame} {meth : Method} {c : Code} (l : Launch) {G : va_G} {cB cI cZ : ClassId} {tc : Nat} {a b : Nat → Nat} {b0 L : Nat} {xs : Nat → Int32} (hL : L ≤ 2560) (C0 : lw_At p s m meth c b0 L xs) (hK : va_K G vwCl [(cB, .byte), (cI, .int), (cZ, .boolean)] s) (hZ : fw_Z tc (fun q : Nat => s.heap.size ≤ q) s s.heap) : ∀ (nf c0 : Nat) (u : CS) (v : MS) (H : Heap) (locs : List Loc) (ls : Array Slot), 512 - c0 < nf → 5 * c0 ≤ L → sm_S c0 u v → va_P G vwCl (wS a cB cI cZ u ++ wM b cB cI cZ v) H → va_D (fun q : Nat => s.heap.size ≤ q) (wS a cB cI cZ u ++ wM b cB cI cZ v) → va_S (fun q : Nat => s.heap.size ≤ q) s.heap H locs → lv_has ls 4 [(0, .ref b0), (1, .ref (a 0)), (2, .ref (b 0)), (3, .int (nI (5 * c0)))] → W p l e room_1 s m #[Value.ref b0] below meth c H locs 32 16790 (lw_Z below #[Value.ref b0] s) (F0 m 18 ls []) := by
  have C1 := C0
  obtain ⟨hx, hb, hr, hml, hown, hts, hX, hbl, hlocks, hgv⟩ := C0
  have hbA : ¬ (fun q : Nat => s.heap.size ≤ q) b0 := Nat.not_le.mpr hbl
  intro nf
  induction nf with
  | zero => intro c0 u v H locs ls h; exact absurd h (Nat.not_lt_zero _)
  | succ nf ih =>
    intro c0 u v H locs ls hn hc hSim hP hD hS hl
    refine lv_iload_n hx hb dL_law_18 rfl (lv_at hl 3 rfl) ?_
    refine lv_aload_n hx hb dL_law_19 rfl (lv_at hl 0 rfl) ?_
    refine va_slen hx hb hX hbl hbA hS dL_law_20 ?_
    refine lv_iconst (v := 5) hx hb dL_law_21 (by decide) ?_
    refine lv_isub hx hb dL_law_22 ?_
    refine lv_icmp_gt (tgt := 586) hx hb dL_law_23 (by decide) (fun c_23 => ?_) (fun c_23 => ?_)
    · refine lv_iconst (v := 1) hx hb dL_law_586 (by decide) ?_
      refine va_forget (fun q hq => hS.2.2 q hq) ?_
      exact lw_ret hx hb hr hlocks dL_law_587
    · have hc5 : 5 * c0 + 5 ≤ L := lw_cond hL (by omega) c_23
      refine lv_aload_n hx hb dL_law_26 rfl (lv_at hl 0 rfl) ?_
      refine lv_iload_n hx hb dL_law_27 rfl (lv_at hl 3 rfl) ?_
      refine va_sld hx hb hX hbl hbA hS (i := nI (5 * c0)) (vp_in_nI (by omega) (by omega)) dL_law_28 ?_
      refine lv_bipush (v := 15) hx hb dL_law_29 (by decide) ?_
      refine lv_iand hx hb dL_law_31 ?_
      obtain ⟨k, hk, ek⟩ := lw_sw (xs (nI (5 * c0)).toNatClampNeg)
      rw [ek]
      have kk : ∀ (u : CS) (v : MS) (H : Heap) (locs : List Loc) (ls : Array Slot), sm_S (c0 + 1) u v → va_P G vwCl (wS a cB cI cZ u ++ wM b cB cI cZ v) H → va_D (fun q : Nat => s.heap.size ≤ q) (wS a cB cI cZ u ++ wM b cB cI cZ v) → va_S (fun q : Nat => s.heap.size ≤ q) s.heap H locs → lv_has ls 4 [(0, .ref b0), (1, .ref (a 0)), (2, .ref (b 0)), (3, .int (nI (5 * c0)))] → W p l e room_1 s m #[Value.ref b0] below meth c H locs 32 16790 (lw_Z below #[Value.ref b0] s) (F0 m 580 ls []) := by
        intro u v H locs ls hSim hP hD hS hl
        refine lv_iinc (v := nI (5 * (c0 + 1))) (lv' := [(3, .int (nI (5 * (c0 + 1)))), (0, .ref b0), (1, .ref (a 0)), (2, .ref (b 0))]) hx hb dL_law_580 hl (k := 3) rfl (by rw [show 5 * (c0 + 1) = 5 * c0 + 5 by omega]; exact nI_add (5 * c0) 5) (by decide) rfl (fun ls hl => ?_)
        refine lv_goto (tgt := 18) hx hb dL_law_583 (by decide) ?_
        exact ih (c0 + 1) u v _ _ _ (by omega) (by omega) hSim hP hD hS (lv_sub hl [1, 2, 3, 0] rfl)
      have hkI : (nI k).toInt = (k : Int) := nI_toInt (by omega)
      rcases (show k = 0 ∨ k = 1 ∨ k = 2 ∨ k = 3 ∨ k = 4 ∨ k = 5 ∨ k = 6 ∨ k = 7 ∨ k = 8 ∨ k = 9 ∨ k = 10 ∨ k = 11 ∨ k = 12 ∨ k = 13 ∨ k = 14 ∨ k = 15 by omega) with rfl | rfl | rfl | rfl | rfl | rfl | rfl | rfl | rfl | rfl | rfl | rfl | rfl | rfl | rfl | rfl
      · refine lv_tableIn (tgt := 112) (off := 80) hx hb dL_law_32 (by decide +kernel) (by decide +kernel) (by decide +kernel) (by decide) ?_
        exact lw_case_0 l hL C1 hK hZ hc5 hSim kk hP hD hS hl
      · refine lv_tableIn (tgt := 135) (off := 103) hx hb dL_law_32 (by decide +kernel) (by decide +kernel) (by decide +kernel) (by decide) ?_
        exact lw_case_1 l hL C1 hK hZ hc5 hSim kk hP hD hS hl
      · refine lv_tableIn (tgt := 158) (off := 126) hx hb dL_law_32 (by decide +kernel) (by decide +kernel) (by decide +kernel) (by decide) ?_
        exact lw_case_2 l hL C1 hK hZ hc5 hSim kk hP hD hS hl
      · refine lv_tableIn (tgt := 211) (off := 179) hx hb dL_law_32 (by decide +kernel) (by decide +kernel) (by decide +kernel) (by decide) ?_
        exact lw_case_3 l hL C1 hK hZ hc5 hSim kk hP hD hS hl
      · refine lv_tableIn (tgt := 254) (off := 222) hx hb dL_law_32 (by decide +kernel) (by decide +kernel) (by decide +kernel) (by decide) ?_
        exact lw_case_4 l hL C1 hK hZ hc5 hSim kk hP hD hS hl
      · refine lv_tableIn (tgt := 287) (off := 255) hx hb dL_law_32 (by decide +kernel) (by decide +kernel) (by decide +kernel) (by decide) ?_
        exact lw_case_5 l hL C1 hK hZ hc5 hSim kk hP hD hS hl
      · refine lv_tableIn (tgt := 300) (off := 268) hx hb dL_law_32 (by decide +kernel) (by decide +kernel) (by decide +kernel) (by decide) ?_
        exact lw_case_6 l hL C1 hK hZ hc5 hSim kk hP hD hS hl
      · refine lv_tableIn (tgt := 323) (off := 291) hx hb dL_law_32 (by decide +kernel) (by decide +kernel) (by decide +kernel) (by decide) ?_
        exact lw_case_7 l hL C1 hK hZ hc5 hSim kk hP hD hS hl
      · refine lv_tableIn (tgt := 356) (off := 324) hx hb dL_law_32 (by decide +kernel) (by decide +kernel) (by decide +kernel) (by decide) ?_
        exact lw_case_8 l hL C1 hK hZ hc5 hSim kk hP hD hS hl
      · refine lv_tableIn (tgt := 389) (off := 357) hx hb dL_law_32 (by decide +kernel) (by decide +kernel) (by decide +kernel) (by decide) ?_
        exact lw_case_9 l hL C1 hK hZ hc5 hSim kk hP hD hS hl
      · refine lv_tableIn (tgt := 412) (off := 380) hx hb dL_law_32 (by decide +kernel) (by decide +kernel) (by decide +kernel) (by decide) ?_
        exact lw_case_10 l hL C1 hK hZ hc5 hSim kk hP hD hS hl
      · refine lv_tableIn (tgt := 435) (off := 403) hx hb dL_law_32 (by decide +kernel) (by decide +kernel) (by decide +kernel) (by decide) ?_
        exact lw_case_11 l hL C1 hK hZ hc5 hSim kk hP hD hS hl
      · refine lv_tableIn (tgt := 478) (off := 446) hx hb dL_law_32 (by decide +kernel) (by decide +kernel) (by decide +kernel) (by decide) ?_
        exact lw_case_12 l hL C1 hK hZ hc5 hSim kk hP hD hS hl
      · refine lv_tableIn (tgt := 511) (off := 479) hx hb dL_law_32 (by decide +kernel) (by decide +kernel) (by decide +kernel) (by decide) ?_
        exact lw_case_13 l hL C1 hK hZ hc5 hSim kk hP hD hS hl
      · refine lv_tableIn (tgt := 534) (off := 502) hx hb dL_law_32 (by decide +kernel) (by decide +kernel) (by decide +kernel) (by decide) ?_
        exact lw_case_14 l hL C1 hK hZ hc5 hSim kk hP hD hS hl
      · refine lv_tableIn (tgt := 557) (off := 525) hx hb dL_law_32 (by decide +kernel) (by decide +kernel) (by decide +kernel) (by decide) ?_
        exact lw_case_15 l hL C1 hK hZ hc5 hSim kk hP hD hS hl
theorem sm_start {lv0 ag : Nat → Int32} (h1 : ∀ j, j < 384 → lv0 j = -1) (h2 : ∀ j, j < 9 → ag j = fw_agI j) : sm_S 0 (0, 0, 0, (fun _ => 0), lv0, (fun _ => 0), (fun _ => 0), (fun _ => 0), (fun _ => 0), (fun _ => 0), (fun _ => 0), (fun _ => 0), (fun _ => 0), (fun _ => 0), (fun _ => 0)) (0, 0, 0, ag, (fun _ => 0), (fun _ => 0), (fun _ => 0), (fun _ => 0), (fun _ => 0), (fun _ => 0), (fun _ => 0), (fun _ => 0), (fun _ => 0), (fun _ => 0), (fun _ => 0), (fun _ => 0), (fun _ => 0)) := by
  refine ⟨⟨rfl, rfl, rfl, rfl, rfl⟩, ⟨by omega, by omega, by omega, by omega, by omega⟩, ⟨h2, fun x _ => ⟨0, by omega, rfl⟩, fun x _ => ⟨0, by omega, rfl⟩, fun x _ => Or.inl rfl, fun x _ => ⟨0, by omega, rfl⟩, fun x _ => ⟨0, by omega, rfl⟩⟩, fun _ => 0, fun _ => 0, ?_, ?_, ?_, ?_⟩
  · exact ⟨by omega, by omega, fun k h => absurd h (Nat.not_lt_zero _), fun i j h => absurd h (Nat.not_lt_zero _), fun x _ => ⟨fun h => absurd rfl h, fun ⟨k, h, _⟩ => absurd h (Nat.not_lt_zero _)⟩, fun i j _ h => absurd h (Nat.not_lt_zero _), fun x _ => ⟨rfl, Nat.le_refl 0⟩, fun k h => absurd h (Nat.not_lt_zero _), fun x _ => Or.inl rfl, by omega, by decide +kernel⟩
  · exact ⟨by omega, fun k a b => by omega, fun k _ => ⟨0, by omega, rfl⟩⟩
  · intro x y k hx hy hk
    rw [h1 _ (by omega)]
    exact ⟨(by decide : (0 : Int32) = -1 + 1), Or.inl rfl⟩
  · exact ⟨fun i h => absurd h (Nat.not_lt_zero _), fun i j _ h => absurd h (Nat.not_lt_zero _), fun i j h => absurd h (Nat.not_lt_zero _), fun i h => absurd h (Nat.not_lt_zero _), fun i j h => absurd h (Nat.not_lt_zero _), fun i h => absurd h (Nat.not_lt_zero _), fun i h => absurd h (Nat.not_lt_zero _)⟩

theorem lw_arr {s : State} {args : Array Value} {ty : FieldType} (hp : ∀ c, s.vm.findClass ("[" ++ ty.toString) = some c → va_RA s c ty) (h : (Cond.arrayClass ty).before args s = true) : ∃ c : ClassId, ArrOfT s c ty ∧ va_RA s c ty := by
  obtain ⟨c, k, comp, h1, h2, h3⟩ := Cond.arrayClass_spec h
  exact ⟨c, fun n z => ⟨fun k h => (by cases h), k, h2, comp, h3⟩, hp c h1⟩
set_option maxHeartbeats 4000000 in
set_option maxRecDepth 100000 in
theorem whole_start {p : Program} {e : Env} {s : State} {m : MethodId} {below : List Frame} {meth : Method} {c : Code} (l : Launch) {b L : Nat} {xs : Nat → Int32} (hL : L ≤ 2560) (C0 : lw_At p s m meth c b L xs) : W p l e room_1 s m #[Value.ref b] below meth c s.heap [] 0 0 (lw_Z below #[Value.ref b] s) (entryFrame m ([Value.ref b] : List Value).toArray 4) := by
  have C1 := C0
  obtain ⟨hx, hb, hr, hml, hown, hts, hX, hbl, hlocks, hgv⟩ := C0
  have hown : s.vm.findClass RL = some m.cls := hown
  have hA : ∀ q : Nat, s.heap.size ≤ q → (fun q : Nat => s.heap.size ≤ q) q := fun _ h => h
  have hAn : ∀ a : Nat, a < s.heap.size → ¬ (fun q : Nat => s.heap.size ≤ q) a := fun a h => Nat.not_le.mpr h
  obtain ⟨k0, iS0, hKn0⟩ := u_known (C := RX0) (T := TX0) (N := 1) (n := 1) hts (fun w h => (gI_0 w h).1) (hts (.instantiable RX0 1) (by decide +kernel))
  obtain ⟨k1, iS1, hKn1⟩ := u_known (C := RX1) (T := TX1) (N := 2) (n := 2) hts (fun w h => (gI_1 w h).1) (hts (.instantiable RX1 2) (by decide +kernel))
  obtain ⟨k2, iS2, hKn2⟩ := u_known (C := RX2) (T := TX2) (N := 7) (n := 7) hts (fun w h => (gI_2 w h).1) (hts (.instantiable RX2 7) (by decide +kernel))
  obtain ⟨k3, iS3, hKn3⟩ := u_known (C := RX3) (T := TX3) (N := 5) (n := 5) hts (fun w h => (gI_3 w h).1) (hts (.instantiable RX3 5) (by decide +kernel))
  obtain ⟨k4, iS4, hKn4⟩ := u_known (C := RX4) (T := TX4) (N := 4) (n := 4) hts (fun w h => (gI_4 w h).1) (hts (.instantiable RX4 4) (by decide +kernel))
  obtain ⟨k5, iS5, hKn5⟩ := u_known (C := RX5) (T := TX5) (N := 17) (n := 17) hts (fun w h => (gI_5 w h).1) (hts (.instantiable RX5 17) (by decide +kernel))
  obtain ⟨dC, dI, hKc⟩ : ∃ (dC : Nat → ClassId) (dI : Nat → Nat → Nat), ∀ (k : Nat) (q : vw_C), vwCl[k]? = some q → u_Kn s q.1 q.2.1 q.2.2 (dC k) (dI k) := by
    refine ⟨fun k => if k = 0 then k0 else if k = 1 then k1 else if k = 2 then k2 else if k = 3 then k3 else if k = 4 then k4 else k5, fun k => if k = 0 then iS0 else if k = 1 then iS1 else if k = 2 then iS2 else if k = 3 then iS3 else if k = 4 then iS4 else iS5, ?_⟩
    intro k q hq
    match k, hq with
    | 0, hq => cases hq; exact hKn0
    | 1, hq => cases hq; exact hKn1
    | 2, hq => cases hq; exact hKn2
    | 3, hq => cases hq; exact hKn3
    | 4, hq => cases hq; exact hKn4
    | 5, hq => cases hq; exact hKn5
    | k + 6, hq => simp [vwCl] at hq
  obtain ⟨cB, aB⟩ := lw_arr (ty := .byte) (fun _ h => h) (hts (.arrayClass .byte) (List.mem_of_getElem? (i := 46) rfl))
  obtain ⟨cI, aI⟩ := lw_arr (ty := .int) (fun _ h => h) (hts (.arrayClass .int) (List.mem_of_getElem? (i := 82) rfl))
  obtain ⟨cZ, aZ⟩ := lw_arr (ty := .boolean) (fun _ h => h) (hts (.arrayClass .boolean) (List.mem_of_getElem? (i := 111) rfl))
  have hK : va_K (dC, dI) vwCl [(cB, .byte), (cI, .int), (cZ, .boolean)] s := ⟨hKc, fun k q h => by
    match k, h with
    | 0, h => cases h; exact aB
    | 1, h => cases h; exact aI
    | 2, h => cases h; exact aZ
    | k + 3, h => simp at h⟩
  have hs := flat_of_before _ hgv
  have hel : ∀ j : Nat, j < 9 → (Term.elem (.static "LockDesk" "CONFLICTS" "[I") (.int (Int32.ofNat j))).eval #[Value.ref b] s none [] s = some (fw_cf j) := by
    intro j hj
    rcases (show j = 0 ∨ j = 1 ∨ j = 2 ∨ j = 3 ∨ j = 4 ∨ j = 5 ∨ j = 6 ∨ j = 7 ∨ j = 8 by omega) with rfl | rfl | rfl | rfl | rfl | rfl | rfl | rfl | rfl
    · exact va_eqt (hs (.eq (.elem (.static "LockDesk" "CONFLICTS" "[I") (.int 0)) (.int 0)) (by decide +kernel))
    · exact va_eqt (hs (.eq (.elem (.static "LockDesk" "CONFLICTS" "[I") (.int 1)) (.int 256)) (by decide +kernel))
    · exact va_eqt (hs (.eq (.elem (.static "LockDesk" "CONFLICTS" "[I") (.int 2)) (.int 384)) (by decide +kernel))
    · exact va_eqt (hs (.eq (.elem (.static "LockDesk" "CONFLICTS" "[I") (.int 3)) (.int 480)) (by decide +kernel))
    · exact va_eqt (hs (.eq (.elem (.static "LockDesk" "CONFLICTS" "[I") (.int 4)) (.int 496)) (by decide +kernel))
    · exact va_eqt (hs (.eq (.elem (.static "LockDesk" "CONFLICTS" "[I") (.int 5)) (.int 472)) (by decide +kernel))
    · exact va_eqt (hs (.eq (.elem (.static "LockDesk" "CONFLICTS" "[I") (.int 6)) (.int 504)) (by decide +kernel))
    · exact va_eqt (hs (.eq (.elem (.static "LockDesk" "CONFLICTS" "[I") (.int 7)) (.int 508)) (by decide +kernel))
    · exact va_eqt (hs (.eq (.elem (.static "LockDesk" "CONFLICTS" "[I") (.int 8)) (.int 510)) (by decide +kernel))
  obtain ⟨tc, ht, hT⟩ := va_Tof (tm := .static "LockDesk" "CONFLICTS" "[I") (ty := .int) (N := 9) (f := fw_cf) (A := fun q : Nat => s.heap.size ≤ q) (by decide) (hs (.arrayOf (.static "LockDesk" "CONFLICTS" "[I") .int) (by decide +kernel)) (va_eqt (hs (.eq (.length (.static "LockDesk" "CONFLICTS" "[I")) (.int 9)) (by decide +kernel))) hel hAn
  have hZ : fw_Z tc (fun q : Nat => s.heap.size ≤ q) s s.heap := ⟨va_Nw.of rfl (hts (.methodLinkNest RX0 25 yX4_conflict RX4) (List.mem_of_getElem? (i := 204) rfl)), va_Nw.of rfl (hts (.methodLinkNest RX2 47 yX4_conflict RX4) (List.mem_of_getElem? (i := 220) rfl)), va_Zref (hts (.laysStatic "LockDesk" "CONFLICTS" "[I") (List.mem_of_getElem? (i := 208) rfl)) (hts (.initialized "LockDesk") (by decide +kernel)) ht hAn, hT⟩
  have hE : ct_E s := ⟨va_Nw.of rfl (hts (.methodLinkNest RX4 9 yX1_init RX4) (List.mem_of_getElem? (i := 35) rfl)), va_Nw.of rfl (hts (.methodLinkNest RX4 25 yX3_init RX4) (List.mem_of_getElem? (i := 62) rfl)), va_Nw.of rfl (hts (.methodLinkNest RX4 32 yX2_init RX4) (List.mem_of_getElem? (i := 85) rfl))⟩
  have hS : va_S (fun q : Nat => s.heap.size ≤ q) s.heap s.heap [] := va_S.rf
  have hP : va_P (dC, dI) vwCl [] s.heap := fun k q h => by simp at h
  have hD : va_D (fun q : Nat => s.heap.size ≤ q) [] := ⟨fun i j p q h => by simp at h, fun k q h => by simp at h⟩
  have hl := lv_entry ([.ref b]) (n := 4) (Nat.le_of_ble_eq_true rfl)
  rw [lg_entry_eq]
  generalize (lg_sl ([.ref b]) ++ List.replicate (4 - (lg_sl ([.ref b])).length) Slot.unset).toArray = ls at hl ⊢
  have hl : lv_has ls 4 [(0, .ref b)] := hl
  refine va_new (ci := 4) (fs := [.null, .null, .null, .null]) (C := RX4) (T := TX4) (N := 4) hx hb hts (fun w h => (gI_4 w h).1) tyX4 tyX4_ok hown (hts (.classLink RL 7 RX4) (by decide +kernel)) (hts (.instantiable RX4 4) (by decide +kernel)) (hts (.initialized RX4) (by decide +kernel)) hK hP hD hS hA rfl (fun j hj => by rcases (show j = 0 ∨ j = 1 ∨ j = 2 ∨ j = 3 by omega) with rfl | rfl | rfl | rfl <;> rfl) (Nat.le_of_ble_eq_true rfl) (Nat.le_of_ble_eq_true rfl) dL_law_0 (fun o4 H hP hD hS => ?_)
  have hP : va_P (dC, dI) vwCl [(o4, .inr (4, [.null, .null, .null, .null]))] H := hP
  have hD : va_D (fun q : Nat => s.heap.size ≤ q) [(o4, .inr (4, [.null, .null, .null, .null]))] := hD
  refine W.cs (cells' := 1) (slots' := 4) (by decide +kernel) (by decide +kernel) ?_
  refine lv_dup hx hb dL_law_3 rfl ?_
  refine fw_afterI (wc := [(o4, .inr (4, [.null, .null, .null, .null]))]) (wr := []) (va_runI (As := []) (rest := [.ref o4]) ⟨hx, hb, hml, hown, hts⟩ (c_X4_init l (dC, dI) cB cI cZ o4 H.size) (cwI 0 hts gL_X4_init rfl rfl rfl (hts (.initialized RX4) (by decide +kernel)) (hts (.methodLink RL 9 yX4_init) (by decide +kernel)) (hts (.instanceMethod yX4_init) (by decide +kernel)) rfl (by decide +kernel) ⟨by decide, by decide⟩) ⟨fw_blindI ct_E.call, fun U hU hW => fw_preI (ws := [(o4, .inr (4, [.null, .null, .null, .null]))]) (A := fun q : Nat => s.heap.size ≤ q) hK (fun _ h => hE.warm h) hP hD [0] rfl rfl U hU hW⟩ rfl rfl hl.1 rfl (lv_room (Nat.le_of_ble_eq_true rfl)) dL_law_4 ⟨Nat.le_of_ble_eq_true rfl, Nat.le_of_ble_eq_true rfl⟩) hP hD hS hA [0] [] rfl rfl rfl (by decide) (fun w' H locs hp hP hD hS => ?_)
  obtain ⟨a, lv0, rfl, hlv0, rfl⟩ := hp
  have hP : va_P (dC, dI) vwCl (wS a cB cI cZ (0, 0, 0, (fun _ => 0), lv0, (fun _ => 0), (fun _ => 0), (fun _ => 0), (fun _ => 0), (fun _ => 0), (fun _ => 0), (fun _ => 0), (fun _ => 0), (fun _ => 0), (fun _ => 0))) H := hP
  have hD : va_D (fun q : Nat => s.heap.size ≤ q) (wS a cB cI cZ (0, 0, 0, (fun _ => 0), lv0, (fun _ => 0), (fun _ => 0), (fun _ => 0), (fun _ => 0), (fun _ => 0), (fun _ => 0), (fun _ => 0), (fun _ => 0), (fun _ => 0), (fun _ => 0))) := hD
  refine W.cs (cells' := 17) (slots' := 6488) (by decide +kernel) (by decide +kernel) ?_
  refine W.eq (g2 := F0 m 7 ls [.ref (a 0)]) rfl ?_
  refine lv_astore_n (lv' := [(1, .ref (a 0)), (0, .ref b)]) hx hb dL_law_7 rfl hl (by decide) rfl (fun ls hl => ?_)
  refine va_new (ci := 5) (fs := [.null, .int 0, .null, .null, .null, .null, .null, .null, .null, .null, .null, .null, .int 0, .int 0, .null, .null, .null]) (C := RX5) (T := TX5) (N := 17) hx hb hts (fun w h => (gI_5 w h).1) tyX5 tyX5_ok hown (hts (.classLink RL 10 RX5) (by decide +kernel)) (hts (.instantiable RX5 17) (by decide +kernel)) (hts (.initialized RX5) (by decide +kernel)) hK hP hD hS hA rfl (fun j hj => by rcases (show j = 0 ∨ j = 1 ∨ j = 2 ∨ j = 3 ∨ j = 4 ∨ j = 5 ∨ j = 6 ∨ j = 7 ∨ j = 8 ∨ j = 9 ∨ j = 10 ∨ j = 11 ∨ j = 12 ∨ j = 13 ∨ j = 14 ∨ j = 15 ∨ j = 16 by omega) with rfl | rfl | rfl | rfl | rfl | rfl | rfl | rfl | rfl | rfl | rfl | rfl | rfl | rfl | rfl | rfl | rfl <;> rfl) (Nat.le_of_ble_eq_true rfl) (Nat.le_of_ble_eq_true rfl) dL_law_8 (fun o5 H hP hD hS => ?_)
  refine W.cs (cells' := 18) (slots' := 6505) (by decide +kernel) (by decide +kernel) ?_
  refine lv_dup hx hb dL_law_11 rfl ?_
  refine fw_afterI (wc := [(o5, .inr (5, [.null, .int 0, .null, .null, .null, .null, .null, .null, .null, .null, .null, .null, .int 0, .int 0, .null, .null, .null]))]) (wr := wS a cB cI cZ (0, 0, 0, (fun _ => 0), lv0, (fun _ => 0), (fun _ => 0), (fun _ => 0), (fun _ => 0), (fun _ => 0), (fun _ => 0), (fun _ => 0), (fun _ => 0), (fun _ => 0), (fun _ => 0))) (va_runI (As := []) (rest := [.ref o5]) ⟨hx, hb, hml, hown, hts⟩ (c_X5_init l (dC, dI) cB cI cZ o5 H.size) (cwI 0 hts gL_X5_init rfl rfl rfl (hts (.initialized RX5) (by decide +kernel)) (hts (.methodLink RL 12 yX5_init) (by decide +kernel)) (hts (.instanceMethod yX5_init) (by decide +kernel)) rfl (by decide +kernel) ⟨by decide, by decide⟩) ⟨fw_blindI (fun _ _ _ _ h => h), fun U hU hW => fw_preI (A := fun q : Nat => s.heap.size ≤ q) hK (fun _ _ => trivial) hP hD [17] rfl rfl U hU hW⟩ rfl rfl hl.1 rfl (lv_room (Nat.le_of_ble_eq_true rfl)) dL_law_12 ⟨Nat.le_of_ble_eq_true rfl, Nat.le_of_ble_eq_true rfl⟩) hP hD hS hA [17] [0, 1, 2, 3, 4, 5, 6, 7, 8, 9, 10, 11, 12, 13, 14, 15, 16] rfl rfl (by decide) (by decide) (fun w' H locs hp hP hD hS => ?_)
  obtain ⟨b1, ag, rfl, hag, rfl⟩ := hp
  have hP : va_P (dC, dI) vwCl (wS a cB cI cZ (0, 0, 0, (fun _ => 0), lv0, (fun _ => 0), (fun _ => 0), (fun _ => 0), (fun _ => 0), (fun _ => 0), (fun _ => 0), (fun _ => 0), (fun _ => 0), (fun _ => 0), (fun _ => 0)) ++ wM b1 cB cI cZ (0, 0, 0, ag, (fun _ => 0), (fun _ => 0), (fun _ => 0), (fun _ => 0), (fun _ => 0), (fun _ => 0), (fun _ => 0), (fun _ => 0), (fun _ => 0), (fun _ => 0), (fun _ => 0), (fun _ => 0), (fun _ => 0))) H := hP
  have hD : va_D (fun q : Nat => s.heap.size ≤ q) (wS a cB cI cZ (0, 0, 0, (fun _ => 0), lv0, (fun _ => 0), (fun _ => 0), (fun _ => 0), (fun _ => 0), (fun _ => 0), (fun _ => 0), (fun _ => 0), (fun _ => 0), (fun _ => 0), (fun _ => 0)) ++ wM b1 cB cI cZ (0, 0, 0, ag, (fun _ => 0), (fun _ => 0), (fun _ => 0), (fun _ => 0), (fun _ => 0), (fun _ => 0), (fun _ => 0), (fun _ => 0), (fun _ => 0), (fun _ => 0), (fun _ => 0), (fun _ => 0), (fun _ => 0))) := hD
  refine W.cs (cells' := 32) (slots' := 16790) (by decide +kernel) (by decide +kernel) ?_
  refine W.eq (g2 := F0 m 15 ls [.ref (b1 0)]) rfl ?_
  refine lv_astore_n (lv' := [(2, .ref (b1 0)), (1, .ref (a 0)), (0, .ref b)]) hx hb dL_law_15 rfl hl (by decide) rfl (fun ls hl => ?_)
  refine lv_iconst (v := 0) hx hb dL_law_16 (by decide) ?_
  refine lv_istore_n (lv' := [(3, .int 0), (2, .ref (b1 0)), (1, .ref (a 0)), (0, .ref b)]) hx hb dL_law_17 rfl hl (by decide) rfl (fun ls hl => ?_)
  exact law_loop l hL C1 hK hZ _ 0 _ _ _ _ _ (Nat.lt_succ_self _) (by omega) (sm_start hlv0 hag) hP hD hS (lv_sub hl [3, 2, 1, 0] rfl)
