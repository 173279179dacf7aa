/-! The law: calls on a part of the world, the loop, the start. -/
section FWL
variable {p : Program} {l : Launch} {e : Env} {R : Room} {s : State} {m : MethodId} {args : Array Value} {below : List Frame} {meth : Method} {c : Code} {H : Heap} {locs : List Loc} {cells slots : Nat} {Q : State → Prop}
variable {y : MethodName} {bytes cc : ByteArray} {maxL nL n index : Nat} {ret : Option FieldType} {wsy : List Cond} {rm : Room} {Ts : List Cond} {own C : String} {b : Addr} {As rest st0 : List Value} {pc : Nat} {ls : Array Slot}
variable {G : va_G} {tys : List (ClassId × FieldType)} {tc : Nat} {ws wc wr : va_W} {post : Option Value → va_W → Prop} {A : Nat → Prop}
theorem kL (S : CallFix p m c cc nL s args Ts own) (hM : KC l y wsy rm G tys tc (.ref b :: As) wc post) (cw : CallW R s args own C index y bytes maxL ret wsy rm 0 0 n)
    (hK : va_K G vwCl tys s) (hZ : fw_Z tc A s s.heap) (hA : ∀ q, s.heap.size ≤ q → A q) (hP : va_P G vwCl ws H) (hD : va_D A ws) (hS : va_S A s.heap H locs) (isC isR : List Nat) (hC : isC.map (fun i => ws[i]?) = wc.map some) (hR : isR.map (fun i => ws[i]?) = wr.map some) (hnC : va_nd isC = true) (hnR : va_nd isR = true) (hdis : ∀ i ∈ isR, i ∉ isC)
    (ci : Nat) {T : u_T} {N : Nat} {fs : List Value} (hc : vwCl[ci]? = some (C, T, N)) (he : wc[0]? = some (b, .inr (ci, fs)))
    (hn : As.length = n) (hsize : ls.size = nL) (hst : st0 = As.reverse ++ .ref b :: rest) (hroom : (rest.map fun v => v.category).sum ≤ 8) (hdg : decode cc pc = .ok (.invokevirtual index, 3)) (hf : cells ≤ R.cells ∧ slots ≤ R.slots)
    (kk : ∀ (v : Option Value) (w' : va_W) (H1 : Heap) (locs1 : List Loc), post v w' → va_P G vwCl (wr ++ w') H1 → va_D A (wr ++ w') → va_S A s.heap H1 locs1 → W p l e R s m args below meth c H1 locs1 cells slots Q (F0 m (pc + 3) ls (v.toList ++ rest))) : W p l e R s m args below meth c H locs cells slots Q (F0 m pc ls st0) := by
  have hF := va_free hD hS hA isC hC
  have hPc : va_P G vwCl wc H := fun k q hk => by
    have h1 : (isC.map (fun i => ws[i]?))[k]? = some (some q) := by rw [hC, List.getElem?_map, hk]; rfl
    rw [List.getElem?_map] at h1
    cases hi : isC[k]? with
    | none => rw [hi] at h1; cases h1
    | some i => rw [hi] at h1; exact hP i q (Option.some.inj h1)
  have hDc := hD.sub isC hnC hC
  have hr := va_runV (locs := locs) (cells := cells) (slots := slots) (below := below) (meth := meth) (e := e) (As := As) (rest := rest) S (hM H.size) cw ⟨fw_blind, va_recv hK hPc hc he, fun U hU hW => fw_preU hK hZ hF hPc hDc hS U hU hW⟩ rfl hn hsize hst (lv_room hroom) hdg hf
  intro T hT X
  obtain ⟨v, st₀, t, T', L, h0, X', hL, e1, e2, ⟨⟨v', w', hv, hp, hPw, hDw⟩, hz, hk⟩, st⟩ := hr T hT X
  cases hv
  rw [h0] at hz hk
  have hj := va_join (H1 := T'.heap) hP hD isC isR hC hR hnR hdis (fun q h1 h2 => by rw [e1]; exact hk q h1 h2) hF (by rw [e1]; exact hPw) hDw
  obtain ⟨t2, a1, b1⟩ := kk v w' T'.heap (locs ++ L) hp hj.1 hj.2
    ⟨Nat.le_trans hS.1 (by rw [e1]; exact hz), fun q h1 h2 => by rw [e1, hk q (Nat.lt_of_lt_of_le h1 hS.1) (fun z => h2 (hF q z))]; exact hS.2.1 q h1 h2, fun q hq => by
      rcases List.mem_append.mp hq with h | h
      · exact hS.2.2 q h
      · exact hF _ (hL q h)⟩ T' rfl X'
  exact ⟨t2, st t2 a1, b1⟩
end FWL
theorem lw_cond {L i : Nat} (hL : L ≤ 2560) (hi : i ≤ 2560) (h : ¬ nI L - 5 < nI i) : i + 5 ≤ L := by
  rw [Int32.lt_iff_toInt_lt, show (5 : Int32) = nI 5 from rfl, pk_sub_toInt (by omega) (by omega), nI_toInt (by omega)] at h
  omega
theorem lw_sw (x : Int32) : ∃ k : Nat, k < 16 ∧ x &&& 15 = nI k := pk_andE x (m := 15) 4 (by decide)

set_option maxHeartbeats 4000000 in
set_option maxRecDepth 100000 in
theorem lw_case_0 {p : Program} {e : Env} {s : State} {m : MethodId} {below : List Frame} {meth : Method} {c : Code} (l : Launch) {G : va_G} {cB cI cZ : ClassId} {tc : Nat} {a b : Nat → Nat} {b0 L : Nat} {xs : Nat → Int32} (hL : L ≤ 2560) (C0 : lw_At p s m meth c b0 L xs) (hK : va_K G vwCl [(cB, .byte), (cI, .int), (cZ, .boolean)] s) (hZ : fw_Z tc (fun q : Nat => s.heap.size ≤ q) s s.heap) {c0 : Nat} (hc : 5 * c0 + 5 ≤ L) {u : CS} {v : MS} (hSim : sm_S c0 u v) {H : Heap} {locs : List Loc} {ls : Array Slot} (kk : ∀ (u : CS) (v : MS) (H : Heap) (locs : List Loc) (ls : Array Slot), sm_S (c0 + 1) u v → va_P G vwCl (wS a cB cI cZ u ++ wM b cB cI cZ v) H → va_D (fun q : Nat => s.heap.size ≤ q) (wS a cB cI cZ u ++ wM b cB cI cZ v) → va_S (fun q : Nat => s.heap.size ≤ q) s.heap H locs → lv_has ls 4 [(0, .ref b0), (1, .ref (a 0)), (2, .ref (b 0)), (3, .int (nI (5 * c0)))] → W p l e room_1 s m #[Value.ref b0] below meth c H locs 32 16790 (lw_Z below #[Value.ref b0] s) (F0 m 580 ls [])) : va_P G vwCl (wS a cB cI cZ u ++ wM b cB cI cZ v) H → va_D (fun q : Nat => s.heap.size ≤ q) (wS a cB cI cZ u ++ wM b cB cI cZ v) → va_S (fun q : Nat => s.heap.size ≤ q) s.heap H locs → lv_has ls 4 [(0, .ref b0), (1, .ref (a 0)), (2, .ref (b 0)), (3, .int (nI (5 * c0)))] → W p l e room_1 s m #[Value.ref b0] below meth c H locs 32 16790 (lw_Z below #[Value.ref b0] s) (F0 m 112 ls []) := by
  intro hP hD hS hl
  obtain ⟨hx, hb, hr, hml, hown, hts, hX, hbl, hlocks, hgv⟩ := C0
  have hA : ∀ q : Nat, s.heap.size ≤ q → (fun q : Nat => s.heap.size ≤ q) q := fun _ h => h
  have hbA : ¬ (fun q : Nat => s.heap.size ≤ q) b0 := Nat.not_le.mpr hbl
  have hown : s.vm.findClass RL = some m.cls := hown
  refine lv_aload_n hx hb dL_law_112 rfl (lv_at hl 1 rfl) ?_
  refine lv_aload_n hx hb dL_law_113 rfl (lv_at hl 0 rfl) ?_
  refine lv_iload_n hx hb dL_law_114 rfl (lv_at hl 3 rfl) ?_
  refine lv_iconst (v := 1) hx hb dL_law_115 (by decide) ?_
  refine lv_iadd hx hb dL_law_116 ?_
  refine va_sld hx hb hX hbl hbA hS (i := nI (5 * c0) + 1) (by rw [show (1 : Int32) = nI 1 from rfl, nI_add]; exact vp_in_nI (by omega) (by omega)) dL_law_117 ?_
  obtain ⟨NC, hMC, hMM⟩ := st_number l G cB cI cZ tc a b hSim (by omega) (xs (nI (5 * c0) + 1).toNatClampNeg)
  obtain ⟨g, r, n, rn, lv, lk, ss, rw, sg, od, aw, tb, md, ql, dr⟩ := u
  obtain ⟨g2, t0, q, ag, ow, ru, hd, kd, tb2, md2, lv2, dr2, nb, bg, lr, lb, lh⟩ := v
  refine kL (As := [.int (xs (nI (5 * c0) + 1).toNatClampNeg)]) (rest := []) (wr := wM b cB cI cZ (g2, t0, q, ag, ow, ru, hd, kd, tb2, md2, lv2, dr2, nb, bg, lr, lb, lh)) ⟨hx, hb, hml, hown, hts⟩ hMC (cwV 1 hts gL_X4_number rfl rfl rfl (by decide +kernel) ⟨by decide, by decide⟩) hK hZ hA hP hD hS [0, 1, 2, 3, 4, 5, 6, 7, 8, 9, 10, 11, 12, 13, 14, 15, 16] [17, 18, 19, 20, 21, 22, 23, 24, 25, 26, 27, 28, 29, 30, 31] rfl rfl (by decide) (by decide) (by decide) 4 rfl rfl rfl hl.1 rfl (Nat.le_of_ble_eq_true rfl) dL_law_118 ⟨by decide, by decide⟩ (fun o w' H locs hp hP hD hS => ?_)
  obtain ⟨z1, ⟨g1, r1, n1, rn1, lv1, lk1, ss1, rw1, sg1, od1, aw1, tb1, md1, ql1, dr1⟩, rfl, rfl, hNC⟩ := hp
  refine W.eq (g2 := F0 m 121 ls [.int z1]) rfl ?_
  refine lv_aload_n hx hb dL_law_121 rfl (lv_at hl 2 rfl) ?_
  refine lv_aload_n hx hb dL_law_122 rfl (lv_at hl 0 rfl) ?_
  refine lv_iload_n hx hb dL_law_123 rfl (lv_at hl 3 rfl) ?_
  refine lv_iconst (v := 1) hx hb dL_law_124 (by decide) ?_
  refine lv_iadd hx hb dL_law_125 ?_
  refine va_sld hx hb hX hbl hbA hS (i := nI (5 * c0) + 1) (by rw [show (1 : Int32) = nI 1 from rfl, nI_add]; exact vp_in_nI (by omega) (by omega)) dL_law_126 ?_
  refine kL (As := [.int (xs (nI (5 * c0) + 1).toNatClampNeg)]) (rest := [.int z1]) (wr := wS a cB cI cZ (g1, r1, n1, rn1, lv1, lk1, ss1, rw1, sg1, od1, aw1, tb1, md1, ql1, dr1)) ⟨hx, hb, hml, hown, hts⟩ hMM (cwV 1 hts gL_X5_number rfl rfl rfl (by decide +kernel) ⟨by decide, by decide⟩) hK hZ hA hP hD hS [0, 1, 2, 3, 4, 5, 6, 7, 8, 9, 10, 11, 12, 13, 14] [15, 16, 17, 18, 19, 20, 21, 22, 23, 24, 25, 26, 27, 28, 29, 30, 31] rfl rfl (by decide) (by decide) (by decide) 5 rfl rfl rfl hl.1 rfl (Nat.le_of_ble_eq_true rfl) dL_law_127 ⟨by decide, by decide⟩ (fun o w' H locs hp hP hD hS => ?_)
  obtain ⟨z2, v2, rfl, rfl, hend⟩ := hp
  refine W.eq (g2 := F0 m 130 ls [.int z2, .int z1]) rfl ?_
  have hfin := hend _ _ hNC
  refine lv_icmp_eq (tgt := 580) hx hb dL_law_130 (by decide) (fun _ => ?_) (fun hne => absurd hfin.1 hne)
  exact kk _ _ _ _ _ hfin.2 hP hD hS hl

set_option maxHeartbeats 4000000 in
set_option maxRecDepth 100000 in
theorem lw_case_1 {p : Program} {e : Env} {s : State} {m : MethodId} {below : List Frame} {meth : Method} {c : Code} (l : Launch) {G : va_G} {cB cI cZ : ClassId} {tc : Nat} {a b : Nat → Nat} {b0 L : Nat} {xs : Nat → Int32} (hL : L ≤ 2560) (C0 : lw_At p s m meth c b0 L xs) (hK : va_K G vwCl [(cB, .byte), (cI, .int), (cZ, .boolean)] s) (hZ : fw_Z tc (fun q : Nat => s.heap.size ≤ q) s s.heap) {c0 : Nat} (hc : 5 * c0 + 5 ≤ L) {u : CS} {v : MS} (hSim : sm_S c0 u v) {H : Heap} {locs : List Loc} {ls : Array Slot} (kk : ∀ (u : CS) (v : MS) (H : Heap) (locs : List Loc) (ls : Array Slot), sm_S (c0 + 1) u v → va_P G vwCl (wS a cB cI cZ u ++ wM b cB cI cZ v) H → va_D (fun q : Nat => s.heap.size ≤ q) (wS a cB cI cZ u ++ wM b cB cI cZ v) → va_S (fun q : Nat => s.heap.size ≤ q) s.heap H locs → lv_has ls 4 [(0, .ref b0), (1, .ref (a 0)), (2, .ref (b 0)), (3, .int (nI (5 * c0)))] → W p l e room_1 s m #[Value.ref b0] below meth c H locs 32 16790 (lw_Z below #[Value.ref b0] s) (F0 m 580 ls [])) : va_P G vwCl (wS a cB cI cZ u ++ wM b cB cI cZ v) H → va_D (fun q : Nat => s.heap.size ≤ q) (wS a cB cI cZ u ++ wM b cB cI cZ v) → va_S (fun q : Nat => s.heap.size ≤ q) s.heap H locs → lv_has ls 4 [(0, .ref b0), (1, .ref (a 0)), (2, .ref (b 0)), (3, .int (nI (5 * c0)))] → W p l e room_1 s m #[Value.ref b0] below meth c H locs 32 16790 (lw_Z below #[Value.ref b0] s) (F0 m 135 ls []) := by
  intro hP hD hS hl
  obtain ⟨hx, hb, hr, hml, hown, hts, hX, hbl, hlocks, hgv⟩ := C0
  have hA : ∀ q : Nat, s.heap.size ≤ q → (fun q : Nat => s.heap.size ≤ q) q := fun _ h => h
  have hbA : ¬ (fun q : Nat => s.heap.size ≤ q) b0 := Nat.not_le.mpr hbl
  have hown : s.vm.findClass RL = some m.cls := hown
  refine lv_aload_n hx hb dL_law_135 rfl (lv_at hl 1 rfl) ?_
  refine lv_aload_n hx hb dL_law_136 rfl (lv_at hl 0 rfl) ?_
  refine lv_iload_n hx hb dL_law_137 rfl (lv_at hl 3 rfl) ?_
  refine lv_iconst (v := 1) hx hb dL_law_138 (by decide) ?_
  refine lv_iadd hx hb dL_law_139 ?_
  refine va_sld hx hb hX hbl hbA hS (i := nI (5 * c0) + 1) (by rw [show (1 : Int32) = nI 1 from rfl, nI_add]; exact vp_in_nI (by omega) (by omega)) dL_law_140 ?_
  obtain ⟨NC, hMC, hMM⟩ := st_over l G cB cI cZ tc a b hSim (by omega) (xs (nI (5 * c0) + 1).toNatClampNeg)
  obtain ⟨g, r, n, rn, lv, lk, ss, rw, sg, od, aw, tb, md, ql, dr⟩ := u
  obtain ⟨g2, t0, q, ag, ow, ru, hd, kd, tb2, md2, lv2, dr2, nb, bg, lr, lb, lh⟩ := v
  refine kL (As := [.int (xs (nI (5 * c0) + 1).toNatClampNeg)]) (rest := []) (wr := wM b cB cI cZ (g2, t0, q, ag, ow, ru, hd, kd, tb2, md2, lv2, dr2, nb, bg, lr, lb, lh)) ⟨hx, hb, hml, hown, hts⟩ hMC (cwV 1 hts gL_X4_over rfl rfl rfl (by decide +kernel) ⟨by decide, by decide⟩) hK hZ hA hP hD hS [0, 1, 2, 3, 4, 5, 6, 7, 8, 9, 10, 11, 12, 13, 14, 15, 16] [17, 18, 19, 20, 21, 22, 23, 24, 25, 26, 27, 28, 29, 30, 31] rfl rfl (by decide) (by decide) (by decide) 4 rfl rfl rfl hl.1 rfl (Nat.le_of_ble_eq_true rfl) dL_law_141 ⟨by decide, by decide⟩ (fun o w' H locs hp hP hD hS => ?_)
  obtain ⟨z1, ⟨g1, r1, n1, rn1, lv1, lk1, ss1, rw1, sg1, od1, aw1, tb1, md1, ql1, dr1⟩, rfl, rfl, hNC⟩ := hp
  refine W.eq (g2 := F0 m 144 ls [.int z1]) rfl ?_
  refine lv_aload_n hx hb dL_law_144 rfl (lv_at hl 2 rfl) ?_
  refine lv_aload_n hx hb dL_law_145 rfl (lv_at hl 0 rfl) ?_
  refine lv_iload_n hx hb dL_law_146 rfl (lv_at hl 3 rfl) ?_
  refine lv_iconst (v := 1) hx hb dL_law_147 (by decide) ?_
  refine lv_iadd hx hb dL_law_148 ?_
  refine va_sld hx hb hX hbl hbA hS (i := nI (5 * c0) + 1) (by rw [show (1 : Int32) = nI 1 from rfl, nI_add]; exact vp_in_nI (by omega) (by omega)) dL_law_149 ?_
  refine kL (As := [.int (xs (nI (5 * c0) + 1).toNatClampNeg)]) (rest := [.int z1]) (wr := wS a cB cI cZ (g1, r1, n1, rn1, lv1, lk1, ss1, rw1, sg1, od1, aw1, tb1, md1, ql1, dr1)) ⟨hx, hb, hml, hown, hts⟩ hMM (cwV 1 hts gL_X5_over rfl rfl rfl (by decide +kernel) ⟨by decide, by decide⟩) hK hZ hA hP hD hS [0, 1, 2, 3, 4, 5, 6, 7, 8, 9, 10, 11, 12, 13, 14] [15, 16, 17, 18, 19, 20, 21, 22, 23, 24, 25, 26, 27, 28, 29, 30, 31] rfl rfl (by decide) (by decide) (by decide) 5 rfl rfl rfl hl.1 rfl (Nat.le_of_ble_eq_true rfl) dL_law_150 ⟨by decide, by decide⟩ (fun o w' H locs hp hP hD hS => ?_)
  obtain ⟨z2, v2, rfl, rfl, hend⟩ := hp
  refine W.eq (g2 := F0 m 153 ls [.int z2, .int z1]) rfl ?_
  have hfin := hend _ _ hNC
  refine lv_icmp_eq (tgt := 580) hx hb dL_law_153 (by decide) (fun _ => ?_) (fun hne => absurd hfin.1 hne)
  exact kk _ _ _ _ _ hfin.2 hP hD hS hl

set_option maxHeartbeats 4000000 in
set_option maxRecDepth 100000 in
theorem lw_case_2 {p : Program} {e : Env} {s : State} {m : MethodId} {below : List Frame} {meth : Method} {c : Code} (l : Launch) {G : va_G} {cB cI cZ : ClassId} {tc : Nat} {a b : Nat → Nat} {b0 L : Nat} {xs : Nat → Int32} (hL : L ≤ 2560) (C0 : lw_At p s m meth c b0 L xs) (hK : va_K G vwCl [(cB, .byte), (cI, .int), (cZ, .boolean)] s) (hZ : fw_Z tc (fun q : Nat => s.heap.size ≤ q) s s.heap) {c0 : Nat} (hc : 5 * c0 + 5 ≤ L) {u : CS} {v : MS} (hSim : sm_S c0 u v) {H : Heap} {locs : List Loc} {ls : Array Slot} (kk : ∀ (u : CS) (v : MS) (H : Heap) (locs : List Loc) (ls : Array Slot), sm_S (c0 + 1) u v → va_P G vwCl (wS a cB cI cZ u ++ wM b cB cI cZ v) H → va_D (fun q : Nat => s.heap.size ≤ q) (wS a cB cI cZ u ++ wM b cB cI cZ v) → va_S (fun q : Nat => s.heap.size ≤ q) s.heap H locs → lv_has ls 4 [(0, .ref b0), (1, .ref (a 0)), (2, .ref (b 0)), (3, .int (nI (5 * c0)))] → W p l e room_1 s m #[Value.ref b0] below meth c H locs 32 16790 (lw_Z below #[Value.ref b0] s) (F0 m 580 ls [])) : va_P G vwCl (wS a cB cI cZ u ++ wM b cB cI cZ v) H → va_D (fun q : Nat => s.heap.size ≤ q) (wS a cB cI cZ u ++ wM b cB cI cZ v) → va_S (fun q : Nat => s.heap.size ≤ q) s.heap H locs → lv_has ls 4 [(0, .ref b0), (1, .ref (a 0)), (2, .ref (b 0)), (3, .int (nI (5 * c0)))] → W p l e room_1 s m #[Value.ref b0] below meth c H locs 32 16790 (lw_Z below #[Value.ref b0] s) (F0 m 158 ls []) := by
  intro hP hD hS hl
  obtain ⟨hx, hb, hr, hml, hown, hts, hX, hbl, hlocks, hgv⟩ := C0
  have hA : ∀ q : Nat, s.heap.size ≤ q → (fun q : Nat => s.heap.size ≤ q) q := fun _ h => h
  have hbA : ¬ (fun q : Nat => s.heap.size ≤ q) b0 := Nat.not_le.mpr hbl
  have hown : s.vm.findClass RL = some m.cls := hown
  refine lv_aload_n hx hb dL_law_158 rfl (lv_at hl 1 rfl) ?_
  refine lv_aload_n hx hb dL_law_159 rfl (lv_at hl 0 rfl) ?_
  refine lv_iload_n hx hb dL_law_160 rfl (lv_at hl 3 rfl) ?_
  refine lv_iconst (v := 1) hx hb dL_law_161 (by decide) ?_
  refine lv_iadd hx hb dL_law_162 ?_
  refine va_sld hx hb hX hbl hbA hS (i := nI (5 * c0) + 1) (by rw [show (1 : Int32) = nI 1 from rfl, nI_add]; exact vp_in_nI (by omega) (by omega)) dL_law_163 ?_
  refine lv_aload_n hx hb dL_law_164 rfl (lv_at hl 0 rfl) ?_
  refine lv_iload_n hx hb dL_law_165 rfl (lv_at hl 3 rfl) ?_
  refine lv_iconst (v := 2) hx hb dL_law_166 (by decide) ?_
  refine lv_iadd hx hb dL_law_167 ?_
  refine va_sld hx hb hX hbl hbA hS (i := nI (5 * c0) + 2) (by rw [show (2 : Int32) = nI 2 from rfl, nI_add]; exact vp_in_nI (by omega) (by omega)) dL_law_168 ?_
  refine lv_aload_n hx hb dL_law_169 rfl (lv_at hl 0 rfl) ?_
  refine lv_iload_n hx hb dL_law_170 rfl (lv_at hl 3 rfl) ?_
  refine lv_iconst (v := 3) hx hb dL_law_171 (by decide) ?_
  refine lv_iadd hx hb dL_law_172 ?_
  refine va_sld hx hb hX hbl hbA hS (i := nI (5 * c0) + 3) (by rw [show (3 : Int32) = nI 3 from rfl, nI_add]; exact vp_in_nI (by omega) (by omega)) dL_law_173 ?_
  refine lv_aload_n hx hb dL_law_174 rfl (lv_at hl 0 rfl) ?_
  refine lv_iload_n hx hb dL_law_175 rfl (lv_at hl 3 rfl) ?_
  refine lv_iconst (v := 4) hx hb dL_law_176 (by decide) ?_
  refine lv_iadd hx hb dL_law_177 ?_
  refine va_sld hx hb hX hbl hbA hS (i := nI (5 * c0) + 4) (by rw [show (4 : Int32) = nI 4 from rfl, nI_add]; exact vp_in_nI (by omega) (by omega)) dL_law_178 ?_
  obtain ⟨NC, hMC, hMM⟩ := st_ask l G cB cI cZ tc a b hSim (by omega) (xs (nI (5 * c0) + 1).toNatClampNeg) (xs (nI (5 * c0) + 2).toNatClampNeg) (xs (nI (5 * c0) + 3).toNatClampNeg) (xs (nI (5 * c0) + 4).toNatClampNeg)
  obtain ⟨g, r, n, rn, lv, lk, ss, rw, sg, od, aw, tb, md, ql, dr⟩ := u
  obtain ⟨g2, t0, q, ag, ow, ru, hd, kd, tb2, md2, lv2, dr2, nb, bg, lr, lb, lh⟩ := v
  refine kL (As := [.int (xs (nI (5 * c0) + 1).toNatClampNeg), .int (xs (nI (5 * c0) + 2).toNatClampNeg), .int (xs (nI (5 * c0) + 3).toNatClampNeg), .int (xs (nI (5 * c0) + 4).toNatClampNeg)]) (rest := []) (wr := wM b cB cI cZ (g2, t0, q, ag, ow, ru, hd, kd, tb2, md2, lv2, dr2, nb, bg, lr, lb, lh)) ⟨hx, hb, hml, hown, hts⟩ hMC (cwV 4 hts gL_X4_ask rfl rfl rfl (by decide +kernel) ⟨by decide, by decide⟩) hK hZ hA hP hD hS [0, 1, 2, 3, 4, 5, 6, 7, 8, 9, 10, 11, 12, 13, 14, 15, 16] [17, 18, 19, 20, 21, 22, 23, 24, 25, 26, 27, 28, 29, 30, 31] rfl rfl (by decide) (by decide) (by decide) 4 rfl rfl rfl hl.1 rfl (Nat.le_of_ble_eq_true rfl) dL_law_179 ⟨by decide, by decide⟩ (fun o w' H locs hp hP hD hS => ?_)
  obtain ⟨z1, ⟨g1, r1, n1, rn1, lv1, lk1, ss1, rw1, sg1, od1, aw1, tb1, md1, ql1, dr1⟩, rfl, rfl, hNC⟩ := hp
  refine W.eq (g2 := F0 m 182 ls [.int z1]) rfl ?_
  refine lv_aload_n hx hb dL_law_182 rfl (lv_at hl 2 rfl) ?_
  refine lv_aload_n hx hb dL_law_183 rfl (lv_at hl 0 rfl) ?_
  refine lv_iload_n hx hb dL_law_184 rfl (lv_at hl 3 rfl) ?_
  refine lv_iconst (v := 1) hx hb dL_law_185 (by decide) ?_
  refine lv_iadd hx hb dL_law_186 ?_
  refine va_sld hx hb hX hbl hbA hS (i := nI (5 * c0) + 1) (by rw [show (1 : Int32) = nI 1 from rfl, nI_add]; exact vp_in_nI (by omega) (by omega)) dL_law_187 ?_
  refine lv_aload_n hx hb dL_law_188 rfl (lv_at hl 0 rfl) ?_
  refine lv_iload_n hx hb dL_law_189 rfl (lv_at hl 3 rfl) ?_
  refine lv_iconst (v := 2) hx hb dL_law_190 (by decide) ?_
  refine lv_iadd hx hb dL_law_191 ?_
  refine va_sld hx hb hX hbl hbA hS (i := nI (5 * c0) + 2) (by rw [show (2 : Int32) = nI 2 from rfl, nI_add]; exact vp_in_nI (by omega) (by omega)) dL_law_192 ?_
  refine lv_aload_n hx hb dL_law_193 rfl (lv_at hl 0 rfl) ?_
  refine lv_iload_n hx hb dL_law_194 rfl (lv_at hl 3 rfl) ?_
  refine lv_iconst (v := 3) hx hb dL_law_195 (by decide) ?_
  refine lv_iadd hx hb dL_law_196 ?_
  refine va_sld hx hb hX hbl hbA hS (i := nI (5 * c0) + 3) (by rw [show (3 : Int32) = nI 3 from rfl, nI_add]; exact vp_in_nI (by omega) (by omega)) dL_law_197 ?_
  refine lv_aload_n hx hb dL_law_198 rfl (lv_at hl 0 rfl) ?_
  refine lv_iload_n hx hb dL_law_199 rfl (lv_at hl 3 rfl) ?_
  refine lv_iconst (v := 4) hx hb dL_law_200 (by decide) ?_
  refine lv_iadd hx hb dL_law_201 ?_
  refine va_sld hx hb hX hbl hbA hS (i := nI (5 * c0) + 4) (by rw [show (4 : Int32) = nI 4 from rfl, nI_add]; exact vp_in_nI (by omega) (by omega)) dL_law_202 ?_
  refine kL (As := [.int (xs (nI (5 * c0) + 1).toNatClampNeg), .int (xs (nI (5 * c0) + 2).toNatClampNeg), .int (xs (nI (5 * c0) + 3).toNatClampNeg), .int (xs (nI (5 * c0) + 4).toNatClampNeg)]) (rest := [.int z1]) (wr := wS a cB cI cZ (g1, r1, n1, rn1, lv1, lk1, ss1, rw1, sg1, od1, aw1, tb1, md1, ql1, dr1)) ⟨hx, hb, hml, hown, hts⟩ hMM (cwV 4 hts gL_X5_ask rfl rfl rfl (by decide +kernel) ⟨by decide, by decide⟩) hK hZ hA hP hD hS [0, 1, 2, 3, 4, 5, 6, 7, 8, 9, 10, 11, 12, 13, 14] [15, 16, 17, 18, 19, 20, 21, 22, 23, 24, 25, 26, 27, 28, 29, 30, 31] rfl rfl (by decide) (by decide) (by decide) 5 rfl rfl rfl hl.1 rfl (Nat.le_of_ble_eq_true rfl) dL_law_203 ⟨by decide, by decide⟩ (fun o w' H locs hp hP hD hS => ?_)
  obtain ⟨z2, v2, rfl, rfl, hend⟩ := hp
  refine W.eq (g2 := F0 m 206 ls [.int z2, .int z1]) rfl ?_
  have hfin := hend _ _ hNC
  refine lv_icmp_eq (tgt := 580) hx hb dL_law_206 (by decide) (fun _ => ?_) (fun hne => absurd hfin.1 hne)
  exact kk _ _ _ _ _ hfin.2 hP hD hS hl

set_option maxHeartbeats 4000000 in
set_option maxRecDepth 100000 in
theorem lw_case_3 {p : Program} {e : Env} {s : State} {m : MethodId} {below : List Frame} {meth : Method} {c : Code} (l : Launch) {G : va_G} {cB cI cZ : ClassId} {tc : Nat} {a b : Nat → Nat} {b0 L : Nat} {xs : Nat → Int32} (hL : L ≤ 2560) (C0 : lw_At p s m meth c b0 L xs) (hK : va_K G vwCl [(cB, .byte), (cI, .int), (cZ, .boolean)] s) (hZ : fw_Z tc (fun q : Nat => s.heap.size ≤ q) s s.heap) {c0 : Nat} (hc : 5 * c0 + 5 ≤ L) {u : CS} {v : MS} (hSim : sm_S c0 u v) {H : Heap} {locs : List Loc} {ls : Array Slot} (kk : ∀ (u : CS) (v : MS) (H : Heap) (locs : List Loc) (ls : Array Slot), sm_S (c0 + 1) u v → va_P G vwCl (wS a cB cI cZ u ++ wM b cB cI cZ v) H → va_D (fun q : Nat => s.heap.size ≤ q) (wS a cB cI cZ u ++ wM b cB cI cZ v) → va_S (fun q : Nat => s.heap.size ≤ q) s.heap H locs → lv_has ls 4 [(0, .ref b0), (1, .ref (a 0)), (2, .ref (b 0)), (3, .int (nI (5 * c0)))] → W p l e room_1 s m #[Value.ref b0] below meth c H locs 32 16790 (lw_Z below #[Value.ref b0] s) (F0 m 580 ls [])) : va_P G vwCl (wS a cB cI cZ u ++ wM b cB cI cZ v) H → va_D (fun q : Nat => s.heap.size ≤ q) (wS a cB cI cZ u ++ wM b cB cI cZ v) → va_S (fun q : Nat => s.heap.size ≤ q) s.heap H locs → lv_has ls 4 [(0, .ref b0), (1, .ref (a 0)), (2, .ref (b 0)), (3, .int (nI (5 * c0)))] → W p l e room_1 s m #[Value.ref b0] below meth c H locs 32 16790 (lw_Z below #[Value.ref b0] s) (F0 m 211 ls []) := by
  intro hP hD hS hl
  obtain ⟨hx, hb, hr, hml, hown, hts, hX, hbl, hlocks, hgv⟩ := C0
  have hA : ∀ q : Nat, s.heap.size ≤ q → (fun q : Nat => s.heap.size ≤ q) q := fun _ h => h
  have hbA : ¬ (fun q : Nat => s.heap.size ≤ q) b0 := Nat.not_le.mpr hbl
  have hown : s.vm.findClass RL = some m.cls := hown
  refine lv_aload_n hx hb dL_law_211 rfl (lv_at hl 1 rfl) ?_
  refine lv_aload_n hx hb dL_law_212 rfl (lv_at hl 0 rfl) ?_
  refine lv_iload_n hx hb dL_law_213 rfl (lv_at hl 3 rfl) ?_
  refine lv_iconst (v := 1) hx hb dL_law_214 (by decide) ?_
  refine lv_iadd hx hb dL_law_215 ?_
  refine va_sld hx hb hX hbl hbA hS (i := nI (5 * c0) + 1) (by rw [show (1 : Int32) = nI 1 from rfl, nI_add]; exact vp_in_nI (by omega) (by omega)) dL_law_216 ?_
  refine lv_aload_n hx hb dL_law_217 rfl (lv_at hl 0 rfl) ?_
  refine lv_iload_n hx hb dL_law_218 rfl (lv_at hl 3 rfl) ?_
  refine lv_iconst (v := 2) hx hb dL_law_219 (by decide) ?_
  refine lv_iadd hx hb dL_law_220 ?_
  refine va_sld hx hb hX hbl hbA hS (i := nI (5 * c0) + 2) (by rw [show (2 : Int32) = nI 2 from rfl, nI_add]; exact vp_in_nI (by omega) (by omega)) dL_law_221 ?_
  refine lv_aload_n hx hb dL_law_222 rfl (lv_at hl 0 rfl) ?_
  refine lv_iload_n hx hb dL_law_223 rfl (lv_at hl 3 rfl) ?_
  refine lv_iconst (v := 3) hx hb dL_law_224 (by decide) ?_
  refine lv_iadd hx hb dL_law_225 ?_
  refine va_sld hx hb hX hbl hbA hS (i := nI (5 * c0) + 3) (by rw [show (3 : Int32) = nI 3 from rfl, nI_add]; exact vp_in_nI (by omega) (by omega)) dL_law_226 ?_
  obtain ⟨NC, hMC, hMM⟩ := st_lock l G cB cI cZ tc a b hSim (by omega) (xs (nI (5 * c0) + 1).toNatClampNeg) (xs (nI (5 * c0) + 2).toNatClampNeg) (xs (nI (5 * c0) + 3).toNatClampNeg)
  obtain ⟨g, r, n, rn, lv, lk, ss, rw, sg, od, aw, tb, md, ql, dr⟩ := u
  obtain ⟨g2, t0, q, ag, ow, ru, hd, kd, tb2, md2, lv2, dr2, nb, bg, lr, lb, lh⟩ := v
  refine kL (As := [.int (xs (nI (5 * c0) + 1).toNatClampNeg), .int (xs (nI (5 * c0) + 2).toNatClampNeg), .int (xs (nI (5 * c0) + 3).toNatClampNeg)]) (rest := []) (wr := wM b cB cI cZ (g2, t0, q, ag, ow, ru, hd, kd, tb2, md2, lv2, dr2, nb, bg, lr, lb, lh)) ⟨hx, hb, hml, hown, hts⟩ hMC (cwV 3 hts gL_X4_lock rfl rfl rfl (by decide +kernel) ⟨by decide, by decide⟩) hK hZ hA hP hD hS [0, 1, 2, 3, 4, 5, 6, 7, 8, 9, 10, 11, 12, 13, 14, 15, 16] [17, 18, 19, 20, 21, 22, 23, 24, 25, 26, 27, 28, 29, 30, 31] rfl rfl (by decide) (by decide) (by decide) 4 rfl rfl rfl hl.1 rfl (Nat.le_of_ble_eq_true rfl) dL_law_227 ⟨by decide, by decide⟩ (fun o w' H locs hp hP hD hS => ?_)
  obtain ⟨z1, ⟨g1, r1, n1, rn1, lv1, lk1, ss1, rw1, sg1, od1, aw1, tb1, md1, ql1, dr1⟩, rfl, rfl, hNC⟩ := hp
  refine W.eq (g2 := F0 m 230 ls [.int z1]) rfl ?_
  refine lv_aload_n hx hb dL_law_230 rfl (lv_at hl 2 rfl) ?_
  refine lv_aload_n hx hb dL_law_231 rfl (lv_at hl 0 rfl) ?_
  refine lv_iload_n hx hb dL_law_232 rfl (lv_at hl 3 rfl) ?_
  refine lv_iconst (v := 1) hx hb dL_law_233 (by decide) ?_
  refine lv_iadd hx hb dL_law_234 ?_
  refine va_sld hx hb hX hbl hbA hS (i := nI (5 * c0) + 1) (by rw [show (1 : Int32) = nI 1 from rfl, nI_add]; exact vp_in_nI (by omega) (by omega)) dL_law_235 ?_
  refine lv_aload_n hx hb dL_law_236 rfl (lv_at hl 0 rfl) ?_
  refine lv_iload_n hx hb dL_law_237 rfl (lv_at hl 3 rfl) ?_
  refine lv_iconst (v := 2) hx hb dL_law_238 (by decide) ?_
  refine lv_iadd hx hb dL_law_239 ?_
  refine va_sld hx hb hX hbl hbA hS (i := nI (5 * c0) + 2) (by rw [show (2 : Int32) = nI 2 from rfl, nI_add]; exact vp_in_nI (by omega) (by omega)) dL_law_240 ?_
  refine lv_aload_n hx hb dL_law_241 rfl (lv_at hl 0 rfl) ?_
  refine lv_iload_n hx hb dL_law_242 rfl (lv_at hl 3 rfl) ?_
  refine lv_iconst (v := 3) hx hb dL_law_243 (by decide) ?_
  refine lv_iadd hx hb dL_law_244 ?_
  refine va_sld hx hb hX hbl hbA hS (i := nI (5 * c0) + 3) (by rw [show (3 : Int32) = nI 3 from rfl, nI_add]; exact vp_in_nI (by omega) (by omega)) dL_law_245 ?_
  refine kL (As := [.int (xs (nI (5 * c0) + 1).toNatClampNeg), .int (xs (nI (5 * c0) + 2).toNatClampNeg), .int (xs (nI (5 * c0) + 3).toNatClampNeg)]) (rest := [.int z1]) (wr := wS a cB cI cZ (g1, r1, n1, rn1, lv1, lk1, ss1, rw1, sg1, od1, aw1, tb1, md1, ql1, dr1)) ⟨hx, hb, hml, hown, hts⟩ hMM (cwV 3 hts gL_X5_lock rfl rfl rfl (by decide +kernel) ⟨by decide, by decide⟩) hK hZ hA hP hD hS [0, 1, 2, 3, 4, 5, 6, 7, 8, 9, 10, 11, 12, 13, 14] [15, 16, 17, 18, 19, 20, 21, 22, 23, 24, 25, 26, 27, 28, 29, 30, 31] rfl rfl (by decide) (by decide) (by decide) 5 rfl rfl rfl hl.1 rfl (Nat.le_of_ble_eq_true rfl) dL_law_246 ⟨by decide, by decide⟩ (fun o w' H locs hp hP hD hS => ?_)
  obtain ⟨z2, v2, rfl, rfl, hend⟩ := hp
  refine W.eq (g2 := F0 m 249 ls [.int z2, .int z1]) rfl ?_
  have hfin := hend _ _ hNC
  refine lv_icmp_eq (tgt := 580) hx hb dL_law_249 (by decide) (fun _ => ?_) (fun hne => absurd hfin.1 hne)
  exact kk _ _ _ _ _ hfin.2 hP hD hS hl

set_option maxHeartbeats 4000000 in
set_option maxRecDepth 100000 in
theorem lw_case_4 {p : Program} {e : Env} {s : State} {m : MethodId} {below : List Frame} {meth : Method} {c : Code} (l : Launch) {G : va_G} {cB cI cZ : ClassId} {tc : Nat} {a b : Nat → Nat} {b0 L : Nat} {xs : Nat → Int32} (hL : L ≤ 2560) (C0 : lw_At p s m meth c b0 L xs) (hK : va_K G vwCl [(cB, .byte), (cI, .int), (cZ, .boolean)] s) (hZ : fw_Z tc (fun q : Nat => s.heap.size ≤ q) s s.heap) {c0 : Nat} (hc : 5 * c0 + 5 ≤ L) {u : CS} {v : MS} (hSim : sm_S c0 u v) {H : Heap} {locs : List Loc} {ls : Array Slot} (kk : ∀ (u : CS) (v : MS) (H : Heap) (locs : List Loc) (ls : Array Slot), sm_S (c0 + 1) u v → va_P G vwCl (wS a cB cI cZ u ++ wM b cB cI cZ v) H → va_D (fun q : Nat => s.heap.size ≤ q) (wS a cB cI cZ u ++ wM b cB cI cZ v) → va_S (fun q : Nat => s.heap.size ≤ q) s.heap H locs → lv_has ls 4 [(0, .ref b0), (1, .ref (a 0)), (2, .ref (b 0)), (3, .int (nI (5 * c0)))] → W p l e room_1 s m #[Value.ref b0] below meth c H locs 32 16790 (lw_Z below #[Value.ref b0] s) (F0 m 580 ls [])) : va_P G vwCl (wS a cB cI cZ u ++ wM b cB cI cZ v) H → va_D (fun q : Nat => s.heap.size ≤ q) (wS a cB cI cZ u ++ wM b cB cI cZ v) → va_S (fun q : Nat => s.heap.size ≤ q) s.heap H locs → lv_has ls 4 [(0, .ref b0), (1, .ref (a 0)), (2, .ref (b 0)), (3, .int (nI (5 * c0)))] → W p l e room_1 s m #[Value.ref b0] below meth c H locs 32 16790 (lw_Z below #[Value.ref b0] s) (F0 m 254 ls []) := by
  intro hP hD hS hl
  obtain ⟨hx, hb, hr, hml, hown, hts, hX, hbl, hlocks, hgv⟩ := C0
  have hA : ∀ q : Nat, s.heap.size ≤ q → (fun q : Nat => s.heap.size ≤ q) q := fun _ h => h
  have hbA : ¬ (fun q : Nat => s.heap.size ≤ q) b0 := Nat.not_le.mpr hbl
  have hown : s.vm.findClass RL = some m.cls := hown
  refine lv_aload_n hx hb dL_law_254 rfl (lv_at hl 1 rfl) ?_
  refine lv_aload_n hx hb dL_law_255 rfl (lv_at hl 0 rfl) ?_
  refine lv_iload_n hx hb dL_law_256 rfl (lv_at hl 3 rfl) ?_
  refine lv_iconst (v := 1) hx hb dL_law_257 (by decide) ?_
  refine lv_iadd hx hb dL_law_258 ?_
  refine va_sld hx hb hX hbl hbA hS (i := nI (5 * c0) + 1) (by rw [show (1 : Int32) = nI 1 from rfl, nI_add]; exact vp_in_nI (by omega) (by omega)) dL_law_259 ?_
  refine lv_aload_n hx hb dL_law_260 rfl (lv_at hl 0 rfl) ?_
  refine lv_iload_n hx hb dL_law_261 rfl (lv_at hl 3 rfl) ?_
  refine lv_iconst (v := 2) hx hb dL_law_262 (by decide) ?_
  refine lv_iadd hx hb dL_law_263 ?_
  refine va_sld hx hb hX hbl hbA hS (i := nI (5 * c0) + 2) (by rw [show (2 : Int32) = nI 2 from rfl, nI_add]; exact vp_in_nI (by omega) (by omega)) dL_law_264 ?_
  obtain ⟨NC, hMC, hMM⟩ := st_await l G cB cI cZ tc a b hSim (by omega) (xs (nI (5 * c0) + 1).toNatClampNeg) (xs (nI (5 * c0) + 2).toNatClampNeg)
  obtain ⟨g, r, n, rn, lv, lk, ss, rw, sg, od, aw, tb, md, ql, dr⟩ := u
  obtain ⟨g2, t0, q, ag, ow, ru, hd, kd, tb2, md2, lv2, dr2, nb, bg, lr, lb, lh⟩ := v
  refine kL (As := [.int (xs (nI (5 * c0) + 1).toNatClampNeg), .int (xs (nI (5 * c0) + 2).toNatClampNeg)]) (rest := []) (wr := wM b cB cI cZ (g2, t0, q, ag, ow, ru, hd, kd, tb2, md2, lv2, dr2, nb, bg, lr, lb, lh)) ⟨hx, hb, hml, hown, hts⟩ hMC (cwV 2 hts gL_X4_await rfl rfl rfl (by decide +kernel) ⟨by decide, by decide⟩) hK hZ hA hP hD hS [0, 1, 2, 3, 4, 5, 6, 7, 8, 9, 10, 11, 12, 13, 14, 15, 16] [17, 18, 19, 20, 21, 22, 23, 24, 25, 26, 27, 28, 29, 30, 31] rfl rfl (by decide) (by decide) (by decide) 4 rfl rfl rfl hl.1 rfl (Nat.le_of_ble_eq_true rfl) dL_law_265 ⟨by decide, by decide⟩ (fun o w' H locs hp hP hD hS => ?_)
  obtain ⟨z1, ⟨g1, r1, n1, rn1, lv1, lk1, ss1, rw1, sg1, od1, aw1, tb1, md1, ql1, dr1⟩, rfl, rfl, hNC⟩ := hp
  refine W.eq (g2 := F0 m 268 ls [.int z1]) rfl ?_
  refine lv_aload_n hx hb dL_law_268 rfl (lv_at hl 2 rfl) ?_
  refine lv_aload_n hx hb dL_law_269 rfl (lv_at hl 0 rfl) ?_
  refine lv_iload_n hx hb dL_law_270 rfl (lv_at hl 3 rfl) ?_
  refine lv_iconst (v := 1) hx hb dL_law_271 (by decide) ?_
  refine lv_iadd hx hb dL_law_272 ?_
  refine va_sld hx hb hX hbl hbA hS (i := nI (5 * c0) + 1) (by rw [show (1 : Int32) = nI 1 from rfl, nI_add]; exact vp_in_nI (by omega) (by omega)) dL_law_273 ?_
  refine lv_aload_n hx hb dL_law_274 rfl (lv_at hl 0 rfl) ?_
  refine lv_iload_n hx hb dL_law_275 rfl (lv_at hl 3 rfl) ?_
  refine lv_iconst (v := 2) hx hb dL_law_276 (by decide) ?_
  refine lv_iadd hx hb dL_law_277 ?_
  refine va_sld hx hb hX hbl hbA hS (i := nI (5 * c0) + 2) (by rw [show (2 : Int32) = nI 2 from rfl, nI_add]; exact vp_in_nI (by omega) (by omega)) dL_law_278 ?_
  refine kL (As := [.int (xs (nI (5 * c0) + 1).toNatClampNeg), .int (xs (nI (5 * c0) + 2).toNatClampNeg)]) (rest := [.int z1]) (wr := wS a cB cI cZ (g1, r1, n1, rn1, lv1, lk1, ss1, rw1, sg1, od1, aw1, tb1, md1, ql1, dr1)) ⟨hx, hb, hml, hown, hts⟩ hMM (cwV 2 hts gL_X5_await rfl rfl rfl (by decide +kernel) ⟨by decide, by decide⟩) hK hZ hA hP hD hS [0, 1, 2, 3, 4, 5, 6, 7, 8, 9, 10, 11, 12, 13, 14] [15, 16, 17, 18, 19, 20, 21, 22, 23, 24, 25, 26, 27, 28, 29, 30, 31] rfl rfl (by decide) (by decide) (by decide) 5 rfl rfl rfl hl.1 rfl (Nat.le_of_ble_eq_true rfl) dL_law_279 ⟨by decide, by decide⟩ (fun o w' H locs hp hP hD hS => ?_)
  obtain ⟨z2, v2, rfl, rfl, hend⟩ := hp
  refine W.eq (g2 := F0 m 282 ls [.int z2, .int z1]) rfl ?_
  have hfin := hend _ _ hNC
  refine lv_icmp_eq (tgt := 580) hx hb dL_law_282 (by decide) (fun _ => ?_) (fun hne => absurd hfin.1 hne)
  exact kk _ _ _ _ _ hfin.2 hP hD hS hl

set_option maxHeartbeats 4000000 in
set_option maxRecDepth 100000 in
theorem lw_case_5 {p : Program} {e : Env} {s : State} {m : MethodId} {below : List Frame} {meth : Method} {c : Code} (l : Launch) {G : va_G} {cB cI cZ : ClassId} {tc : Nat} {a b : Nat → Nat} {b0 L : Nat} {xs : Nat → Int32} (hL : L ≤ 2560) (C0 : lw_At p s m meth c b0 L xs) (hK : va_K G vwCl [(cB, .byte), (cI, .int), (cZ, .boolean)] s) (hZ : fw_Z tc (fun q : Nat => s.heap.size ≤ q) s s.heap) {c0 : Nat} (hc : 5 * c0 + 5 ≤ L) {u : CS} {v : MS} (hSim : sm_S c0 u v) {H : Heap} {locs : List Loc} {ls : Array Slot} (kk : ∀ (u : CS) (v : MS) (H : Heap) (locs : List Loc) (ls : Array Slot), sm_S (c0 + 1) u v → va_P G vwCl (wS a cB cI cZ u ++ wM b cB cI cZ v) H → va_D (fun q : Nat => s.heap.size ≤ q) (wS a cB cI cZ u ++ wM b cB cI cZ v) → va_S (fun q : Nat => s.heap.size ≤ q) s.heap H locs → lv_has ls 4 [(0, .ref b0), (1, .ref (a 0)), (2, .ref (b 0)), (3, .int (nI (5 * c0)))] → W p l e room_1 s m #[Value.ref b0] below meth c H locs 32 16790 (lw_Z below #[Value.ref b0] s) (F0 m 580 ls [])) : va_P G vwCl (wS a cB cI cZ u ++ wM b cB cI cZ v) H → va_D (fun q : Nat => s.heap.size ≤ q) (wS a cB cI cZ u ++ wM b cB cI cZ v) → va_S (fun q : Nat => s.heap.size ≤ q) s.heap H locs → lv_has ls 4 [(0, .ref b0), (1, .ref (a 0)), (2, .ref (b 0)), (3, .int (nI (5 * c0)))] → W p l e room_1 s m #[Value.ref b0] below meth c H locs 32 16790 (lw_Z below #[Value.ref b0] s) (F0 m 287 ls []) := by
  intro hP hD hS hl
  obtain ⟨hx, hb, hr, hml, hown, hts, hX, hbl, hlocks, hgv⟩ := C0
  have hA : ∀ q : Nat, s.heap.size ≤ q → (fun q : Nat => s.heap.size ≤ q) q := fun _ h => h
  have hbA : ¬ (fun q : Nat => s.heap.size ≤ q) b0 := Nat.not_le.mpr hbl
  have hown : s.vm.findClass RL = some m.cls := hown
  refine lv_aload_n hx hb dL_law_287 rfl (lv_at hl 1 rfl) ?_
  obtain ⟨NC, hMC, hMM⟩ := st_next l G cB cI cZ tc a b hSim (by omega)
  obtain ⟨g, r, n, rn, lv, lk, ss, rw, sg, od, aw, tb, md, ql, dr⟩ := u
  obtain ⟨g2, t0, q, ag, ow, ru, hd, kd, tb2, md2, lv2, dr2, nb, bg, lr, lb, lh⟩ := v
  refine kL (As := []) (rest := []) (wr := wM b cB cI cZ (g2, t0, q, ag, ow, ru, hd, kd, tb2, md2, lv2, dr2, nb, bg, lr, lb, lh)) ⟨hx, hb, hml, hown, hts⟩ hMC (cwV 0 hts gL_X4_next rfl rfl rfl (by decide +kernel) ⟨by decide, by decide⟩) hK hZ hA hP hD hS [0, 1, 2, 3, 4, 5, 6, 7, 8, 9, 10, 11, 12, 13, 14, 15, 16] [17, 18, 19, 20, 21, 22, 23, 24, 25, 26, 27, 28, 29, 30, 31] rfl rfl (by decide) (by decide) (by decide) 4 rfl rfl rfl hl.1 rfl (Nat.le_of_ble_eq_true rfl) dL_law_288 ⟨by decide, by decide⟩ (fun o w' H locs hp hP hD hS => ?_)
  obtain ⟨z1, ⟨g1, r1, n1, rn1, lv1, lk1, ss1, rw1, sg1, od1, aw1, tb1, md1, ql1, dr1⟩, rfl, rfl, hNC⟩ := hp
  refine W.eq (g2 := F0 m 291 ls [.int z1]) rfl ?_
  refine lv_aload_n hx hb dL_law_291 rfl (lv_at hl 2 rfl) ?_
  refine kL (As := []) (rest := [.int z1]) (wr := wS a cB cI cZ (g1, r1, n1, rn1, lv1, lk1, ss1, rw1, sg1, od1, aw1, tb1, md1, ql1, dr1)) ⟨hx, hb, hml, hown, hts⟩ hMM (cwV 0 hts gL_X5_next rfl rfl rfl (by decide +kernel) ⟨by decide, by decide⟩) hK hZ hA hP hD hS [0, 1, 2, 3, 4, 5, 6, 7, 8, 9, 10, 11, 12, 13, 14] [15, 16, 17, 18, 19, 20, 21, 22, 23, 24, 25, 26, 27, 28, 29, 30, 31] rfl rfl (by decide) (by decide) (by decide) 5 rfl rfl rfl hl.1 rfl (Nat.le_of_ble_eq_true rfl) dL_law_292 ⟨by decide, by decide⟩ (fun o w' H locs hp hP hD hS => ?_)
  obtain ⟨z2, v2, rfl, rfl, hend⟩ := hp
  refine W.eq (g2 := F0 m 295 ls [.int z2, .int z1]) rfl ?_
  have hfin := hend _ _ hNC
  refine lv_icmp_eq (tgt := 580) hx hb dL_law_295 (by decide) (fun _ => ?_) (fun hne => absurd hfin.1 hne)
  exact kk _ _ _ _ _ hfin.2 hP hD hS hl

set_option maxHeartbeats 4000000 in
set_option maxRecDepth 100000 in
theorem lw_case_6 {p : Program} {e : Env} {s : State} {m : MethodId} {below : List Frame} {meth : Method} {c : Code} (l : Launch) {G : va_G} {cB cI cZ : ClassId} {tc : Nat} {a b : Nat → Nat} {b0 L : Nat} {xs : Nat → Int32} (hL : L ≤ 2560) (C0 : lw_At p s m meth c b0 L xs) (hK : va_K G vwCl [(cB, .byte), (cI, .int), (cZ, .boolean)] s) (hZ : fw_Z tc (fun q : Nat => s.heap.size ≤ q) s s.heap) {c0 : Nat} (hc : 5 * c0 + 5 ≤ L) {u : CS} {v : MS} (hSim : sm_S c0 u v) {H : Heap} {locs : List Loc} {ls : Array Slot} (kk : ∀ (u : CS) (v : MS) (H : Heap) (locs : List Loc) (ls : Array Slot), sm_S (c0 + 1) u v → va_P G vwCl (wS a cB cI cZ u ++ wM b cB cI cZ v) H → va_D (fun q : Nat => s.heap.size ≤ q) (wS a cB cI cZ u ++ wM b cB cI cZ v) → va_S (fun q : Nat => s.heap.size ≤ q) s.heap H locs → lv_has ls 4 [(0, .ref b0), (1, .ref (a 0)), (2, .ref (b 0)), (3, .int (nI (5 * c0)))] → W p l e room_1 s m #[Value.ref b0] below meth c H locs 32 16790 (lw_Z below #[Value.ref b0] s) (F0 m 580 ls [])) : va_P G vwCl (wS a cB cI cZ u ++ wM b cB cI cZ v) H → va_D (fun q : Nat => s.heap.size ≤ q) (wS a cB cI cZ u ++ wM b cB cI cZ v) → va_S (fun q : Nat => s.heap.size ≤ q) s.heap H locs → lv_has ls 4 [(0, .ref b0), (1, .ref (a 0)), (2, .ref (b 0)), (3, .int (nI (5 * c0)))] → W p l e room_1 s m #[Value.ref b0] below meth c H locs 32 16790 (lw_Z below #[Value.ref b0] s) (F0 m 300 ls []) := by
  intro hP hD hS hl
  obtain ⟨hx, hb, hr, hml, hown, hts, hX, hbl, hlocks, hgv⟩ := C0
  have hA : ∀ q : Nat, s.heap.size ≤ q → (fun q : Nat => s.heap.size ≤ q) q := fun _ h => h
  have hbA : ¬ (fun q : Nat => s.heap.size ≤ q) b0 := Nat.not_le.mpr hbl
  have hown : s.vm.findClass RL = some m.cls := hown
  refine lv_aload_n hx hb dL_law_300 rfl (lv_at hl 1 rfl) ?_
  refine lv_aload_n hx hb dL_law_301 rfl (lv_at hl 0 rfl) ?_
  refine lv_iload_n hx hb dL_law_302 rfl (lv_at hl 3 rfl) ?_
  refine lv_iconst (v := 1) hx hb dL_law_303 (by decide) ?_
  refine lv_iadd hx hb dL_law_304 ?_
  refine va_sld hx hb hX hbl hbA hS (i := nI (5 * c0) + 1) (by rw [show (1 : Int32) = nI 1 from rfl, nI_add]; exact vp_in_nI (by omega) (by omega)) dL_law_305 ?_
  obtain ⟨NC, hMC, hMM⟩ := st_cancel l G cB cI cZ tc a b hSim (by omega) (xs (nI (5 * c0) + 1).toNatClampNeg)
  obtain ⟨g, r, n, rn, lv, lk, ss, rw, sg, od, aw, tb, md, ql, dr⟩ := u
  obtain ⟨g2, t0, q, ag, ow, ru, hd, kd, tb2, md2, lv2, dr2, nb, bg, lr, lb, lh⟩ := v
  refine kL (As := [.int (xs (nI (5 * c0) + 1).toNatClampNeg)]) (rest := []) (wr := wM b cB cI cZ (g2, t0, q, ag, ow, ru, hd, kd, tb2, md2, lv2, dr2, nb, bg, lr, lb, lh)) ⟨hx, hb, hml, hown, hts⟩ hMC (cwV 1 hts gL_X4_cancel rfl rfl rfl (by decide +kernel) ⟨by decide, by decide⟩) hK hZ hA hP hD hS [0, 1, 2, 3, 4, 5, 6, 7, 8, 9, 10, 11, 12, 13, 14, 15, 16] [17, 18, 19, 20, 21, 22, 23, 24, 25, 26, 27, 28, 29, 30, 31] rfl rfl (by decide) (by decide) (by decide) 4 rfl rfl rfl hl.1 rfl (Nat.le_of_ble_eq_true rfl) dL_law_306 ⟨by decide, by decide⟩ (fun o w' H locs hp hP hD hS => ?_)
  obtain ⟨z1, ⟨g1, r1, n1, rn1, lv1, lk1, ss1, rw1, sg1, od1, aw1, tb1, md1, ql1, dr1⟩, rfl, rfl, hNC⟩ := hp
  refine W.eq (g2 := F0 m 309 ls [.int z1]) rfl ?_
  refine lv_aload_n hx hb dL_law_309 rfl (lv_at hl 2 rfl) ?_
  refine lv_aload_n hx hb dL_law_310 rfl (lv_at hl 0 rfl) ?_
  refine lv_iload_n hx hb dL_law_311 rfl (lv_at hl 3 rfl) ?_
  refine lv_iconst (v := 1) hx hb dL_law_312 (by decide) ?_
  refine lv_iadd hx hb dL_law_313 ?_
  refine va_sld hx hb hX hbl hbA hS (i := nI (5 * c0) + 1) (by rw [show (1 : Int32) = nI 1 from rfl, nI_add]; exact vp_in_nI (by omega) (by omega)) dL_law_314 ?_
  refine kL (As := [.int (xs (nI (5 * c0) + 1).toNatClampNeg)]) (rest := [.int z1]) (wr := wS a cB cI cZ (g1, r1, n1, rn1, lv1, lk1, ss1, rw1, sg1, od1, aw1, tb1, md1, ql1, dr1)) ⟨hx, hb, hml, hown, hts⟩ hMM (cwV 1 hts gL_X5_cancel rfl rfl rfl (by decide +kernel) ⟨by decide, by decide⟩) hK hZ hA hP hD hS [0, 1, 2, 3, 4, 5, 6, 7, 8, 9, 10, 11, 12, 13, 14] [15, 16, 17, 18, 19, 20, 21, 22, 23, 24, 25, 26, 27, 28, 29, 30, 31] rfl rfl (by decide) (by decide) (by decide) 5 rfl rfl rfl hl.1 rfl (Nat.le_of_ble_eq_true rfl) dL_law_315 ⟨by decide, by decide⟩ (fun o w' H locs hp hP hD hS => ?_)
  obtain ⟨z2, v2, rfl, rfl, hend⟩ := hp
  refine W.eq (g2 := F0 m 318 ls [.int z2, .int z1]) rfl ?_
  have hfin := hend _ _ hNC
  refine lv_icmp_eq (tgt := 580) hx hb dL_law_318 (by decide) (fun _ => ?_) (fun hne => absurd hfin.1 hne)
  exact kk _ _ _ _ _ hfin.2 hP hD hS hl

set_option maxHeartbeats 4000000 in
set_option maxRecDepth 100000 in
theorem lw_case_7 {p : Program} {e : Env} {s : State} {m : MethodId} {below : List Frame} {meth : Method} {c : Code} (l : Launch) {G : va_G} {cB cI cZ : ClassId} {tc : Nat} {a b : Nat → Nat} {b0 L : Nat} {xs : Nat → Int32} (hL : L ≤ 2560) (C0 : lw_At p s m meth c b0 L xs) (hK : va_K G vwCl [(cB, .byte), (cI, .int), (cZ, .boolean)] s) (hZ : fw_Z tc (fun q : Nat => s.heap.size ≤ q) s s.heap) {c0 : Nat} (hc : 5 * c0 + 5 ≤ L) {u : CS} {v : MS} (hSim : sm_S c0 u v) {H : Heap} {locs : List Loc} {ls : Array Slot} (kk : ∀ (u : CS) (v : MS) (H : Heap) (locs : List Loc) (ls : Array Slot), sm_S (c0 + 1) u v → va_P G vwCl (wS a cB cI cZ u ++ wM b cB cI cZ v) H → va_D (fun q : Nat => s.heap.size ≤ q) (wS a cB cI cZ u ++ wM b cB cI cZ v) → va_S (fun q : Nat => s.heap.size ≤ q) s.heap H locs → lv_has ls 4 [(0, .ref b0), (1, .ref (a 0)), (2, .ref (b 0)), (3, .int (nI (5 * c0)))] → W p l e room_1 s m #[Value.ref b0] below meth c H locs 32 16790 (lw_Z below #[Value.ref b0] s) (F0 m 580 ls [])) : va_P G vwCl (wS a cB cI cZ u ++ wM b cB cI cZ v) H → va_D (fun q : Nat => s.heap.size ≤ q) (wS a cB cI cZ u ++ wM b cB cI cZ v) → va_S (fun q : Nat => s.heap.size ≤ q) s.heap H locs → lv_has ls 4 [(0, .ref b0), (1, .ref (a 0)), (2, .ref (b 0)), (3, .int (nI (5 * c0)))] → W p l e room_1 s m #[Value.ref b0] below meth c H locs 32 16790 (lw_Z below #[Value.ref b0] s) (F0 m 323 ls []) := by
  intro hP hD hS hl
  obtain ⟨hx, hb, hr, hml, hown, hts, hX, hbl, hlocks, hgv⟩ := C0
  have hA : ∀ q : Nat, s.heap.size ≤ q → (fun q : Nat => s.heap.size ≤ q) q := fun _ h => h
  have hbA : ¬ (fun q : Nat => s.heap.size ≤ q) b0 := Nat.not_le.mpr hbl
  have hown : s.vm.findClass RL = some m.cls := hown
  refine lv_aload_n hx hb dL_law_323 rfl (lv_at hl 1 rfl) ?_
  refine lv_aload_n hx hb dL_law_324 rfl (lv_at hl 0 rfl) ?_
  refine lv_iload_n hx hb dL_law_325 rfl (lv_at hl 3 rfl) ?_
  refine lv_iconst (v := 1) hx hb dL_law_326 (by decide) ?_
  refine lv_iadd hx hb dL_law_327 ?_
  refine va_sld hx hb hX hbl hbA hS (i := nI (5 * c0) + 1) (by rw [show (1 : Int32) = nI 1 from rfl, nI_add]; exact vp_in_nI (by omega) (by omega)) dL_law_328 ?_
  refine lv_aload_n hx hb dL_law_329 rfl (lv_at hl 0 rfl) ?_
  refine lv_iload_n hx hb dL_law_330 rfl (lv_at hl 3 rfl) ?_
  refine lv_iconst (v := 2) hx hb dL_law_331 (by decide) ?_
  refine lv_iadd hx hb dL_law_332 ?_
  refine va_sld hx hb hX hbl hbA hS (i := nI (5 * c0) + 2) (by rw [show (2 : Int32) = nI 2 from rfl, nI_add]; exact vp_in_nI (by omega) (by omega)) dL_law_333 ?_
  obtain ⟨NC, hMC, hMM⟩ := st_end l G cB cI cZ tc a b hSim (by omega) (xs (nI (5 * c0) + 1).toNatClampNeg) (xs (nI (5 * c0) + 2).toNatClampNeg)
  obtain ⟨g, r, n, rn, lv, lk, ss, rw, sg, od, aw, tb, md, ql, dr⟩ := u
  obtain ⟨g2, t0, q, ag, ow, ru, hd, kd, tb2, md2, lv2, dr2, nb, bg, lr, lb, lh⟩ := v
  refine kL (As := [.int (xs (nI (5 * c0) + 1).toNatClampNeg), .int (xs (nI (5 * c0) + 2).toNatClampNeg)]) (rest := []) (wr := wM b cB cI cZ (g2, t0, q, ag, ow, ru, hd, kd, tb2, md2, lv2, dr2, nb, bg, lr, lb, lh)) ⟨hx, hb, hml, hown, hts⟩ hMC (cwV 2 hts gL_X4_end rfl rfl rfl (by decide +kernel) ⟨by decide, by decide⟩) hK hZ hA hP hD hS [0, 1, 2, 3, 4, 5, 6, 7, 8, 9, 10, 11, 12, 13, 14, 15, 16] [17, 18, 19, 20, 21, 22, 23, 24, 25, 26, 27, 28, 29, 30, 31] rfl rfl (by decide) (by decide) (by decide) 4 rfl rfl rfl hl.1 rfl (Nat.le_of_ble_eq_true rfl) dL_law_334 ⟨by decide, by decide⟩ (fun o w' H locs hp hP hD hS => ?_)
  obtain ⟨z1, ⟨g1, r1, n1, rn1, lv1, lk1, ss1, rw1, sg1, od1, aw1, tb1, md1, ql1, dr1⟩, rfl, rfl, hNC⟩ := hp
  refine W.eq (g2 := F0 m 337 ls [.int z1]) rfl ?_
  refine lv_aload_n hx hb dL_law_337 rfl (lv_at hl 2 rfl) ?_
  refine lv_aload_n hx hb dL_law_338 rfl (lv_at hl 0 rfl) ?_
  refine lv_iload_n hx hb dL_law_339 rfl (lv_at hl 3 rfl) ?_
  refine lv_iconst (v := 1) hx hb dL_law_340 (by decide) ?_
  refine lv_iadd hx hb dL_law_341 ?_
  refine va_sld hx hb hX hbl hbA hS (i := nI (5 * c0) + 1) (by rw [show (1 : Int32) = nI 1 from rfl, nI_add]; exact vp_in_nI (by omega) (by omega)) dL_law_342 ?_
  refine lv_aload_n hx hb dL_law_343 rfl (lv_at hl 0 rfl) ?_
  refine lv_iload_n hx hb dL_law_344 rfl (lv_at hl 3 rfl) ?_
  refine lv_iconst (v := 2) hx hb dL_law_345 (by decide) ?_
  refine lv_iadd hx hb dL_law_346 ?_
  refine va_sld hx hb hX hbl hbA hS (i := nI (5 * c0) + 2) (by rw [show (2 : Int32) = nI 2 from rfl, nI_add]; exact vp_in_nI (by omega) (by omega)) dL_law_347 ?_
  refine kL (As := [.int (xs (nI (5 * c0) + 1).toNatClampNeg), .int (xs (nI (5 * c0) + 2).toNatClampNeg)]) (rest := [.int z1]) (wr := wS a cB cI cZ (g1, r1, n1, rn1, lv1, lk1, ss1, rw1, sg1, od1, aw1, tb1, md1, ql1, dr1)) ⟨hx, hb, hml, hown, hts⟩ hMM (cwV 2 hts gL_X5_end rfl rfl rfl (by decide +kernel) ⟨by decide, by decide⟩) hK hZ hA hP hD hS [0, 1, 2, 3, 4, 5, 6, 7, 8, 9, 10, 11, 12, 13, 14] [15, 16, 17, 18, 19, 20, 21, 22, 23, 24, 25, 26, 27, 28, 29, 30, 31] rfl rfl (by decide) (by decide) (by decide) 5 rfl rfl rfl hl.1 rfl (Nat.le_of_ble_eq_true rfl) dL_law_348 ⟨by decide, by decide⟩ (fun o w' H locs hp hP hD hS => ?_)
  obtain ⟨z2, v2, rfl, rfl, hend⟩ := hp
  refine W.eq (g2 := F0 m 351 ls [.int z2, .int z1]) rfl ?_
  have hfin := hend _ _ hNC
  refine lv_icmp_eq (tgt := 580) hx hb dL_law_351 (by decide) (fun _ => ?_) (fun hne => absurd hfin.1 hne)
  exact kk _ _ _ _ _ hfin.2 hP hD hS hl

set_option maxHeartbeats 4000000 in
set_option maxRecDepth 100000 in
theorem lw_case_8 {p : Program} {e : Env} {s : State} {m : MethodId} {below : List Frame} {meth : Method} {c : Code} (l : Launch) {G : va_G} {cB cI cZ : ClassId} {tc : Nat} {a b : Nat → Nat} {b0 L : Nat} {xs : Nat → Int32} (hL : L ≤ 2560) (C0 : lw_At p s m meth c b0 L xs) (hK : va_K G vwCl [(cB, .byte), (cI, .int), (cZ, .boolean)] s) (hZ : fw_Z tc (fun q : Nat => s.heap.size ≤ q) s s.heap) {c0 : Nat} (hc : 5 * c0 + 5 ≤ L) {u : CS} {v : MS} (hSim : sm_S c0 u v) {H : Heap} {locs : List Loc} {ls : Array Slot} (kk : ∀ (u : CS) (v : MS) (H : Heap) (locs : List Loc) (ls : Array Slot), sm_S (c0 + 1) u v → va_P G vwCl (wS a cB cI cZ u ++ wM b cB cI cZ v) H → va_D (fun q : Nat => s.heap.size ≤ q) (wS a cB cI cZ u ++ wM b cB cI cZ v) → va_S (fun q : Nat => s.heap.size ≤ q) s.heap H locs → lv_has ls 4 [(0, .ref b0), (1, .ref (a 0)), (2, .ref (b 0)), (3, .int (nI (5 * c0)))] → W p l e room_1 s m #[Value.ref b0] below meth c H locs 32 16790 (lw_Z below #[Value.ref b0] s) (F0 m 580 ls [])) : va_P G vwCl (wS a cB cI cZ u ++ wM b cB cI cZ v) H → va_D (fun q : Nat => s.heap.size ≤ q) (wS a cB cI cZ u ++ wM b cB cI cZ v) → va_S (fun q : Nat => s.heap.size ≤ q) s.heap H locs → lv_has ls 4 [(0, .ref b0), (1, .ref (a 0)), (2, .ref (b 0)), (3, .int (nI (5 * c0)))] → W p l e room_1 s m #[Value.ref b0] below meth c H locs 32 16790 (lw_Z below #[Value.ref b0] s) (F0 m 356 ls []) := by
  intro hP hD hS hl
  obtain ⟨hx, hb, hr, hml, hown, hts, hX, hbl, hlocks, hgv⟩ := C0
  have hA : ∀ q : Nat, s.heap.size ≤ q → (fun q : Nat => s.heap.size ≤ q) q := fun _ h => h
  have hbA : ¬ (fun q : Nat => s.heap.size ≤ q) b0 := Nat.not_le.mpr hbl
  have hown : s.vm.findClass RL = some m.cls := hown
  refine lv_aload_n hx hb dL_law_356 rfl (lv_at hl 1 rfl) ?_
  refine lv_aload_n hx hb dL_law_357 rfl (lv_at hl 0 rfl) ?_
  refine lv_iload_n hx hb dL_law_358 rfl (lv_at hl 3 rfl) ?_
  refine lv_iconst (v := 1) hx hb dL_law_359 (by decide) ?_
  refine lv_iadd hx hb dL_law_360 ?_
  refine va_sld hx hb hX hbl hbA hS (i := nI (5 * c0) + 1) (by rw [show (1 : Int32) = nI 1 from rfl, nI_add]; exact vp_in_nI (by omega) (by omega)) dL_law_361 ?_
  refine lv_aload_n hx hb dL_law_362 rfl (lv_at hl 0 rfl) ?_
  refine lv_iload_n hx hb dL_law_363 rfl (lv_at hl 3 rfl) ?_
  refine lv_iconst (v := 2) hx hb dL_law_364 (by decide) ?_
  refine lv_iadd hx hb dL_law_365 ?_
  refine va_sld hx hb hX hbl hbA hS (i := nI (5 * c0) + 2) (by rw [show (2 : Int32) = nI 2 from rfl, nI_add]; exact vp_in_nI (by omega) (by omega)) dL_law_366 ?_
  obtain ⟨NC, hMC, hMM⟩ := st_release l G cB cI cZ tc a b hSim (by omega) (xs (nI (5 * c0) + 1).toNatClampNeg) (xs (nI (5 * c0) + 2).toNatClampNeg)
  obtain ⟨g, r, n, rn, lv, lk, ss, rw, sg, od, aw, tb, md, ql, dr⟩ := u
  obtain ⟨g2, t0, q, ag, ow, ru, hd, kd, tb2, md2, lv2, dr2, nb, bg, lr, lb, lh⟩ := v
  refine kL (As := [.int (xs (nI (5 * c0) + 1).toNatClampNeg), .int (xs (nI (5 * c0) + 2).toNatClampNeg)]) (rest := []) (wr := wM b cB cI cZ (g2, t0, q, ag, ow, ru, hd, kd, tb2, md2, lv2, dr2, nb, bg, lr, lb, lh)) ⟨hx, hb, hml, hown, hts⟩ hMC (cwV 2 hts gL_X4_release rfl rfl rfl (by decide +kernel) ⟨by decide, by decide⟩) hK hZ hA hP hD hS [0, 1, 2, 3, 4, 5, 6, 7, 8, 9, 10, 11, 12, 13, 14, 15, 16] [17, 18, 19, 20, 21, 22, 23, 24, 25, 26, 27, 28, 29, 30, 31] rfl rfl (by decide) (by decide) (by decide) 4 rfl rfl rfl hl.1 rfl (Nat.le_of_ble_eq_true rfl) dL_law_367 ⟨by decide, by decide⟩ (fun o w' H locs hp hP hD hS => ?_)
  obtain ⟨z1, ⟨g1, r1, n1, rn1, lv1, lk1, ss1, rw1, sg1, od1, aw1, tb1, md1, ql1, dr1⟩, rfl, rfl, hNC⟩ := hp
  refine W.eq (g2 := F0 m 370 ls [.int z1]) rfl ?_
  refine lv_aload_n hx hb dL_law_370 rfl (lv_at hl 2 rfl) ?_
  refine lv_aload_n hx hb dL_law_371 rfl (lv_at hl 0 rfl) ?_
  refine lv_iload_n hx hb dL_law_372 rfl (lv_at hl 3 rfl) ?_
  refine lv_iconst (v := 1) hx hb dL_law_373 (by decide) ?_
  refine lv_iadd hx hb dL_law_374 ?_
  refine va_sld hx hb hX hbl hbA hS (i := nI (5 * c0) + 1) (by rw [show (1 : Int32) = nI 1 from rfl, nI_add]; exact vp_in_nI (by omega) (by omega)) dL_law_375 ?_
  refine lv_aload_n hx hb dL_law_376 rfl (lv_at hl 0 rfl) ?_
  refine lv_iload_n hx hb dL_law_377 rfl (lv_at hl 3 rfl) ?_
  refine lv_iconst (v := 2) hx hb dL_law_378 (by decide) ?_
  refine lv_iadd hx hb dL_law_379 ?_
  refine va_sld hx hb hX hbl hbA hS (i := nI (5 * c0) + 2) (by rw [show (2 : Int32) = nI 2 from rfl, nI_add]; exact vp_in_nI (by omega) (by omega)) dL_law_380 ?_
  refine kL (As := [.int (xs (nI (5 * c0) + 1).toNatClampNeg), .int (xs (nI (5 * c0) + 2).toNatClampNeg)]) (rest := [.int z1]) (wr := wS a cB cI cZ (g1, r1, n1, rn1, lv1, lk1, ss1, rw1, sg1, od1, aw1, tb1, md1, ql1, dr1)) ⟨hx, hb, hml, hown, hts⟩ hMM (cwV 2 hts gL_X5_release rfl rfl rfl (by decide +kernel) ⟨by decide, by decide⟩) hK hZ hA hP hD hS [0, 1, 2, 3, 4, 5, 6, 7, 8, 9, 10, 11, 12, 13, 14] [15, 16, 17, 18, 19, 20, 21, 22, 23, 24, 25, 26, 27, 28, 29, 30, 31] rfl rfl (by decide) (by decide) (by decide) 5 rfl rfl rfl hl.1 rfl (Nat.le_of_ble_eq_true rfl) dL_law_381 ⟨by decide, by decide⟩ (fun o w' H locs hp hP hD hS => ?_)
  obtain ⟨z2, v2, rfl, rfl, hend⟩ := hp
  refine W.eq (g2 := F0 m 384 ls [.int z2, .int z1]) rfl ?_
  have hfin := hend _ _ hNC
  refine lv_icmp_eq (tgt := 580) hx hb dL_law_384 (by decide) (fun _ => ?_) (fun hne => absurd hfin.1 hne)
  exact kk _ _ _ _ _ hfin.2 hP hD hS hl

set_option maxHeartbeats 4000000 in
set_option maxRecDepth 100000 in
theorem lw_case_9 {p : Program} {e : Env} {s : State} {m : MethodId} {below : List Frame} {meth : Method} {c : Code} (l : Launch) {G : va_G} {cB cI cZ : ClassId} {tc : Nat} {a b : Nat → Nat} {b0 L : Nat} {xs : Nat → Int32} (hL : L ≤ 2560) (C0 : lw_At p s m meth c b0 L xs) (hK : va_K G vwCl [(cB, .byte), (cI, .int), (cZ, .boolean)] s) (hZ : fw_Z tc (fun q : Nat => s.heap.size ≤ q) s s.heap) {c0 : Nat} (hc : 5 * c0 + 5 ≤ L) {u : CS} {v : MS} (hSim : sm_S c0 u v) {H : Heap} {locs : List Loc} {ls : Array Slot} (kk : ∀ (u : CS) (v : MS) (H : Heap) (locs : List Loc) (ls : Array Slot), sm_S (c0 + 1) u v → va_P G vwCl (wS a cB cI cZ u ++ wM b cB cI cZ v) H → va_D (fun q : Nat => s.heap.size ≤ q) (wS a cB cI cZ u ++ wM b cB cI cZ v) → va_S (fun q : Nat => s.heap.size ≤ q) s.heap H locs → lv_has ls 4 [(0, .ref b0), (1, .ref (a 0)), (2, .ref (b 0)), (3, .int (nI (5 * c0)))] → W p l e room_1 s m #[Value.ref b0] below meth c H locs 32 16790 (lw_Z below #[Value.ref b0] s) (F0 m 580 ls [])) : va_P G vwCl (wS a cB cI cZ u ++ wM b cB cI cZ v) H → va_D (fun q : Nat => s.heap.size ≤ q) (wS a cB cI cZ u ++ wM b cB cI cZ v) → va_S (fun q : Nat => s.heap.size ≤ q) s.heap H locs → lv_has ls 4 [(0, .ref b0), (1, .ref (a 0)), (2, .ref (b 0)), (3, .int (nI (5 * c0)))] → W p l e room_1 s m #[Value.ref b0] below meth c H locs 32 16790 (lw_Z below #[Value.ref b0] s) (F0 m 389 ls []) := by
  intro hP hD hS hl
  obtain ⟨hx, hb, hr, hml, hown, hts, hX, hbl, hlocks, hgv⟩ := C0
  have hA : ∀ q : Nat, s.heap.size ≤ q → (fun q : Nat => s.heap.size ≤ q) q := fun _ h => h
  have hbA : ¬ (fun q : Nat => s.heap.size ≤ q) b0 := Nat.not_le.mpr hbl
  have hown : s.vm.findClass RL = some m.cls := hown
  refine lv_aload_n hx hb dL_law_389 rfl (lv_at hl 1 rfl) ?_
  refine lv_aload_n hx hb dL_law_390 rfl (lv_at hl 0 rfl) ?_
  refine lv_iload_n hx hb dL_law_391 rfl (lv_at hl 3 rfl) ?_
  refine lv_iconst (v := 1) hx hb dL_law_392 (by decide) ?_
  refine lv_iadd hx hb dL_law_393 ?_
  refine va_sld hx hb hX hbl hbA hS (i := nI (5 * c0) + 1) (by rw [show (1 : Int32) = nI 1 from rfl, nI_add]; exact vp_in_nI (by omega) (by omega)) dL_law_394 ?_
  obtain ⟨NC, hMC, hMM⟩ := st_drop l G cB cI cZ tc a b hSim (by omega) (xs (nI (5 * c0) + 1).toNatClampNeg)
  obtain ⟨g, r, n, rn, lv, lk, ss, rw, sg, od, aw, tb, md, ql, dr⟩ := u
  obtain ⟨g2, t0, q, ag, ow, ru, hd, kd, tb2, md2, lv2, dr2, nb, bg, lr, lb, lh⟩ := v
  refine kL (As := [.int (xs (nI (5 * c0) + 1).toNatClampNeg)]) (rest := []) (wr := wM b cB cI cZ (g2, t0, q, ag, ow, ru, hd, kd, tb2, md2, lv2, dr2, nb, bg, lr, lb, lh)) ⟨hx, hb, hml, hown, hts⟩ hMC (cwV 1 hts gL_X4_drop rfl rfl rfl (by decide +kernel) ⟨by decide, by decide⟩) hK hZ hA hP hD hS [0, 1, 2, 3, 4, 5, 6, 7, 8, 9, 10, 11, 12, 13, 14, 15, 16] [17, 18, 19, 20, 21, 22, 23, 24, 25, 26, 27, 28, 29, 30, 31] rfl rfl (by decide) (by decide) (by decide) 4 rfl rfl rfl hl.1 rfl (Nat.le_of_ble_eq_true rfl) dL_law_395 ⟨by decide, by decide⟩ (fun o w' H locs hp hP hD hS => ?_)
  obtain ⟨z1, ⟨g1, r1, n1, rn1, lv1, lk1, ss1, rw1, sg1, od1, aw1, tb1, md1, ql1, dr1⟩, rfl, rfl, hNC⟩ := hp
  refine W.eq (g2 := F0 m 398 ls [.int z1]) rfl ?_
  refine lv_aload_n hx hb dL_law_398 rfl (lv_at hl 2 rfl) ?_
  refine lv_aload_n hx hb dL_law_399 rfl (lv_at hl 0 rfl) ?_
  refine lv_iload_n hx hb dL_law_400 rfl (lv_at hl 3 rfl) ?_
  refine lv_iconst (v := 1) hx hb dL_law_401 (by decide) ?_
  refine lv_iadd hx hb dL_law_402 ?_
  refine va_sld hx hb hX hbl hbA hS (i := nI (5 * c0) + 1) (by rw [show (1 : Int32) = nI 1 from rfl, nI_add]; exact vp_in_nI (by omega) (by omega)) dL_law_403 ?_
  refine kL (As := [.int (xs (nI (5 * c0) + 1).toNatClampNeg)]) (rest := [.int z1]) (wr := wS a cB cI cZ (g1, r1, n1, rn1, lv1, lk1, ss1, rw1, sg1, od1, aw1, tb1, md1, ql1, dr1)) ⟨hx, hb, hml, hown, hts⟩ hMM (cwV 1 hts gL_X5_drop rfl rfl rfl (by decide +kernel) ⟨by decide, by decide⟩) hK hZ hA hP hD hS [0, 1, 2, 3, 4, 5, 6, 7, 8, 9, 10, 11, 12, 13, 14] [15, 16, 17, 18, 19, 20, 21, 22, 23, 24, 25, 26, 27, 28, 29, 30, 31] rfl rfl (by decide) (by decide) (by decide) 5 rfl rfl rfl hl.1 rfl (Nat.le_of_ble_eq_true rfl) dL_law_404 ⟨by decide, by decide⟩ (fun o w' H locs hp hP hD hS => ?_)
  obtain ⟨z2, v2, rfl, rfl, hend⟩ := hp
  refine W.eq (g2 := F0 m 407 ls [.int z2, .int z1]) rfl ?_
  have hfin := hend _ _ hNC
  refine lv_icmp_eq (tgt := 580) hx hb dL_law_407 (by decide) (fun _ => ?_) (fun hne => absurd hfin.1 hne)
  exact kk _ _ _ _ _ hfin.2 hP hD hS hl

set_option maxHeartbeats 4000000 in
set_option maxRecDepth 100000 in
theorem lw_case_10 {p : Program} {e : Env} {s : State} {m : MethodId} {below : List Frame} {meth : Method} {c : Code} (l : Launch) {G : va_G} {cB cI cZ : ClassId} {tc : Nat} {a b : Nat → Nat} {b0 L : Nat} {xs : Nat → Int32} (hL : L ≤ 2560) (C0 : lw_At p s m meth c b0 L xs) (hK : va_K G vwCl [(cB, .byte), (cI, .int), (cZ, .boolean)] s) (hZ : fw_Z tc (fun q : Nat => s.heap.size ≤ q) s s.heap) {c0 : Nat} (hc : 5 * c0 + 5 ≤ L) {u : CS} {v : MS} (hSim : sm_S c0 u v) {H : Heap} {locs : List Loc} {ls : Array Slot} (kk : ∀ (u : CS) (v : MS) (H : Heap) (locs : List Loc) (ls : Array Slot), sm_S (c0 + 1) u v → va_P G vwCl (wS a cB cI cZ u ++ wM b cB cI cZ v) H → va_D (fun q : Nat => s.heap.size ≤ q) (wS a cB cI cZ u ++ wM b cB cI cZ v) → va_S (fun q : Nat => s.heap.size ≤ q) s.heap H locs → lv_has ls 4 [(0, .ref b0), (1, .ref (a 0)), (2, .ref (b 0)), (3, .int (nI (5 * c0)))] → W p l e room_1 s m #[Value.ref b0] below meth c H locs 32 16790 (lw_Z below #[Value.ref b0] s) (F0 m 580 ls [])) : va_P G vwCl (wS a cB cI cZ u ++ wM b cB cI cZ v) H → va_D (fun q : Nat => s.heap.size ≤ q) (wS a cB cI cZ u ++ wM b cB cI cZ v) → va_S (fun q : Nat => s.heap.size ≤ q) s.heap H locs → lv_has ls 4 [(0, .ref b0), (1, .ref (a 0)), (2, .ref (b 0)), (3, .int (nI (5 * c0)))] → W p l e room_1 s m #[Value.ref b0] below meth c H locs 32 16790 (lw_Z below #[Value.ref b0] s) (F0 m 412 ls []) := by
  intro hP hD hS hl
  obtain ⟨hx, hb, hr, hml, hown, hts, hX, hbl, hlocks, hgv⟩ := C0
  have hA : ∀ q : Nat, s.heap.size ≤ q → (fun q : Nat => s.heap.size ≤ q) q := fun _ h => h
  have hbA : ¬ (fun q : Nat => s.heap.size ≤ q) b0 := Nat.not_le.mpr hbl
  have hown : s.vm.findClass RL = some m.cls := hown
  refine lv_aload_n hx hb dL_law_412 rfl (lv_at hl 1 rfl) ?_
  refine lv_aload_n hx hb dL_law_413 rfl (lv_at hl 0 rfl) ?_
  refine lv_iload_n hx hb dL_law_414 rfl (lv_at hl 3 rfl) ?_
  refine lv_iconst (v := 1) hx hb dL_law_415 (by decide) ?_
  refine lv_iadd hx hb dL_law_416 ?_
  refine va_sld hx hb hX hbl hbA hS (i := nI (5 * c0) + 1) (by rw [show (1 : Int32) = nI 1 from rfl, nI_add]; exact vp_in_nI (by omega) (by omega)) dL_law_417 ?_
  obtain ⟨NC, hMC, hMM⟩ := st_clear l G cB cI cZ tc a b hSim (by omega) (xs (nI (5 * c0) + 1).toNatClampNeg)
  obtain ⟨g, r, n, rn, lv, lk, ss, rw, sg, od, aw, tb, md, ql, dr⟩ := u
  obtain ⟨g2, t0, q, ag, ow, ru, hd, kd, tb2, md2, lv2, dr2, nb, bg, lr, lb, lh⟩ := v
  refine kL (As := [.int (xs (nI (5 * c0) + 1).toNatClampNeg)]) (rest := []) (wr := wM b cB cI cZ (g2, t0, q, ag, ow, ru, hd, kd, tb2, md2, lv2, dr2, nb, bg, lr, lb, lh)) ⟨hx, hb, hml, hown, hts⟩ hMC (cwV 1 hts gL_X4_clear rfl rfl rfl (by decide +kernel) ⟨by decide, by decide⟩) hK hZ hA hP hD hS [0, 1, 2, 3, 4, 5, 6, 7, 8, 9, 10, 11, 12, 13, 14, 15, 16] [17, 18, 19, 20, 21, 22, 23, 24, 25, 26, 27, 28, 29, 30, 31] rfl rfl (by decide) (by decide) (by decide) 4 rfl rfl rfl hl.1 rfl (Nat.le_of_ble_eq_true rfl) dL_law_418 ⟨by decide, by decide⟩ (fun o w' H locs hp hP hD hS => ?_)
  obtain ⟨z1, ⟨g1, r1, n1, rn1, lv1, lk1, ss1, rw1, sg1, od1, aw1, tb1, md1, ql1, dr1⟩, rfl, rfl, hNC⟩ := hp
  refine W.eq (g2 := F0 m 421 ls [.int z1]) rfl ?_
  refine lv_aload_n hx hb dL_law_421 rfl (lv_at hl 2 rfl) ?_
  refine lv_aload_n hx hb dL_law_422 rfl (lv_at hl 0 rfl) ?_
  refine lv_iload_n hx hb dL_law_423 rfl (lv_at hl 3 rfl) ?_
  refine lv_iconst (v := 1) hx hb dL_law_424 (by decide) ?_
  refine lv_iadd hx hb dL_law_425 ?_
  refine va_sld hx hb hX hbl hbA hS (i := nI (5 * c0) + 1) (by rw [show (1 : Int32) = nI 1 from rfl, nI_add]; exact vp_in_nI (by omega) (by omega)) dL_law_426 ?_
  refine kL (As := [.int (xs (nI (5 * c0) + 1).toNatClampNeg)]) (rest := [.int z1]) (wr := wS a cB cI cZ (g1, r1, n1, rn1, lv1, lk1, ss1, rw1, sg1, od1, aw1, tb1, md1, ql1, dr1)) ⟨hx, hb, hml, hown, hts⟩ hMM (cwV 1 hts gL_X5_clear rfl rfl rfl (by decide +kernel) ⟨by decide, by decide⟩) hK hZ hA hP hD hS [0, 1, 2, 3, 4, 5, 6, 7, 8, 9, 10, 11, 12, 13, 14] [15, 16, 17, 18, 19, 20, 21, 22, 23, 24, 25, 26, 27, 28, 29, 30, 31] rfl rfl (by decide) (by decide) (by decide) 5 rfl rfl rfl hl.1 rfl (Nat.le_of_ble_eq_true rfl) dL_law_427 ⟨by decide, by decide⟩ (fun o w' H locs hp hP hD hS => ?_)
  obtain ⟨z2, v2, rfl, rfl, hend⟩ := hp
  refine W.eq (g2 := F0 m 430 ls [.int z2, .int z1]) rfl ?_
  have hfin := hend _ _ hNC
  refine lv_icmp_eq (tgt := 580) hx hb dL_law_430 (by decide) (fun _ => ?_) (fun hne => absurd hfin.1 hne)
  exact kk _ _ _ _ _ hfin.2 hP hD hS hl

set_option maxHeartbeats 4000000 in
set_option maxRecDepth 100000 in
theorem lw_case_11 {p : Program} {e : Env} {s : State} {m : MethodId} {below : List Frame} {meth : Method} {c : Code} (l : Launch) {G : va_G} {cB cI cZ : ClassId} {tc : Nat} {a b : Nat → Nat} {b0 L : Nat} {xs : Nat → Int32} (hL : L ≤ 2560) (C0 : lw_At p s m meth c b0 L xs) (hK : va_K G vwCl [(cB, .byte), (cI, .int), (cZ, .boolean)] s) (hZ : fw_Z tc (fun q : Nat => s.heap.size ≤ q) s s.heap) {c0 : Nat} (hc : 5 * c0 + 5 ≤ L) {u : CS} {v : MS} (hSim : sm_S c0 u v) {H : Heap} {locs : List Loc} {ls : Array Slot} (kk : ∀ (u : CS) (v : MS) (H : Heap) (locs : List Loc) (ls : Array Slot), sm_S (c0 + 1) u v → va_P G vwCl (wS a cB cI cZ u ++ wM b cB cI cZ v) H → va_D (fun q : Nat => s.heap.size ≤ q) (wS a cB cI cZ u ++ wM b cB cI cZ v) → va_S (fun q : Nat => s.heap.size ≤ q) s.heap H locs → lv_has ls 4 [(0, .ref b0), (1, .ref (a 0)), (2, .ref (b 0)), (3, .int (nI (5 * c0)))] → W p l e room_1 s m #[Value.ref b0] below meth c H locs 32 16790 (lw_Z below #[Value.ref b0] s) (F0 m 580 ls [])) : va_P G vwCl (wS a cB cI cZ u ++ wM b cB cI cZ v) H → va_D (fun q : Nat => s.heap.size ≤ q) (wS a cB cI cZ u ++ wM b cB cI cZ v) → va_S (fun q : Nat => s.heap.size ≤ q) s.heap H locs → lv_has ls 4 [(0, .ref b0), (1, .ref (a 0)), (2, .ref (b 0)), (3, .int (nI (5 * c0)))] → W p l e room_1 s m #[Value.ref b0] below meth c H locs 32 16790 (lw_Z below #[Value.ref b0] s) (F0 m 435 ls []) := by
  intro hP hD hS hl
  obtain ⟨hx, hb, hr, hml, hown, hts, hX, hbl, hlocks, hgv⟩ := C0
  have hA : ∀ q : Nat, s.heap.size ≤ q → (fun q : Nat => s.heap.size ≤ q) q := fun _ h => h
  have hbA : ¬ (fun q : Nat => s.heap.size ≤ q) b0 := Nat.not_le.mpr hbl
  have hown : s.vm.findClass RL = some m.cls := hown
  refine lv_aload_n hx hb dL_law_435 rfl (lv_at hl 1 rfl) ?_
  refine lv_aload_n hx hb dL_law_436 rfl (lv_at hl 0 rfl) ?_
  refine lv_iload_n hx hb dL_law_437 rfl (lv_at hl 3 rfl) ?_
  refine lv_iconst (v := 1) hx hb dL_law_438 (by decide) ?_
  refine lv_iadd hx hb dL_law_439 ?_
  refine va_sld hx hb hX hbl hbA hS (i := nI (5 * c0) + 1) (by rw [show (1 : Int32) = nI 1 from rfl, nI_add]; exact vp_in_nI (by omega) (by omega)) dL_law_440 ?_
  refine lv_aload_n hx hb dL_law_441 rfl (lv_at hl 0 rfl) ?_
  refine lv_iload_n hx hb dL_law_442 rfl (lv_at hl 3 rfl) ?_
  refine lv_iconst (v := 2) hx hb dL_law_443 (by decide) ?_
  refine lv_iadd hx hb dL_law_444 ?_
  refine va_sld hx hb hX hbl hbA hS (i := nI (5 * c0) + 2) (by rw [show (2 : Int32) = nI 2 from rfl, nI_add]; exact vp_in_nI (by omega) (by omega)) dL_law_445 ?_
  refine lv_aload_n hx hb dL_law_446 rfl (lv_at hl 0 rfl) ?_
  refine lv_iload_n hx hb dL_law_447 rfl (lv_at hl 3 rfl) ?_
  refine lv_iconst (v := 3) hx hb dL_law_448 (by decide) ?_
  refine lv_iadd hx hb dL_law_449 ?_
  refine va_sld hx hb hX hbl hbA hS (i := nI (5 * c0) + 3) (by rw [show (3 : Int32) = nI 3 from rfl, nI_add]; exact vp_in_nI (by omega) (by omega)) dL_law_450 ?_
  obtain ⟨NC, hMC, hMM⟩ := st_holds l G cB cI cZ tc a b hSim (by omega) (xs (nI (5 * c0) + 1).toNatClampNeg) (xs (nI (5 * c0) + 2).toNatClampNeg) (xs (nI (5 * c0) + 3).toNatClampNeg)
  obtain ⟨g, r, n, rn, lv, lk, ss, rw, sg, od, aw, tb, md, ql, dr⟩ := u
  obtain ⟨g2, t0, q, ag, ow, ru, hd, kd, tb2, md2, lv2, dr2, nb, bg, lr, lb, lh⟩ := v
  refine kL (As := [.int (xs (nI (5 * c0) + 1).toNatClampNeg), .int (xs (nI (5 * c0) + 2).toNatClampNeg), .int (xs (nI (5 * c0) + 3).toNatClampNeg)]) (rest := []) (wr := wM b cB cI cZ (g2, t0, q, ag, ow, ru, hd, kd, tb2, md2, lv2, dr2, nb, bg, lr, lb, lh)) ⟨hx, hb, hml, hown, hts⟩ hMC (cwV 3 hts gL_X4_holds rfl rfl rfl (by decide +kernel) ⟨by decide, by decide⟩) hK hZ hA hP hD hS [0, 1, 2, 3, 4, 5, 6, 7, 8, 9, 10, 11, 12, 13, 14, 15, 16] [17, 18, 19, 20, 21, 22, 23, 24, 25, 26, 27, 28, 29, 30, 31] rfl rfl (by decide) (by decide) (by decide) 4 rfl rfl rfl hl.1 rfl (Nat.le_of_ble_eq_true rfl) dL_law_451 ⟨by decide, by decide⟩ (fun o w' H locs hp hP hD hS => ?_)
  obtain ⟨z1, ⟨g1, r1, n1, rn1, lv1, lk1, ss1, rw1, sg1, od1, aw1, tb1, md1, ql1, dr1⟩, rfl, rfl, hNC⟩ := hp
  refine W.eq (g2 := F0 m 454 ls [.int z1]) rfl ?_
  refine lv_aload_n hx hb dL_law_454 rfl (lv_at hl 2 rfl) ?_
  refine lv_aload_n hx hb dL_law_455 rfl (lv_at hl 0 rfl) ?_
  refine lv_iload_n hx hb dL_law_456 rfl (lv_at hl 3 rfl) ?_
  refine lv_iconst (v := 1) hx hb dL_law_457 (by decide) ?_
  refine lv_iadd hx hb dL_law_458 ?_
  refine va_sld hx hb hX hbl hbA hS (i := nI (5 * c0) + 1) (by rw [show (1 : Int32) = nI 1 from rfl, nI_add]; exact vp_in_nI (by omega) (by omega)) dL_law_459 ?_
  refine lv_aload_n hx hb dL_law_460 rfl (lv_at hl 0 rfl) ?_
  refine lv_iload_n hx hb dL_law_461 rfl (lv_at hl 3 rfl) ?_
  refine lv_iconst (v := 2) hx hb dL_law_462 (by decide) ?_
  refine lv_iadd hx hb dL_law_463 ?_
  refine va_sld hx hb hX hbl hbA hS (i := nI (5 * c0) + 2) (by rw [show (2 : Int32) = nI 2 from rfl, nI_add]; exact vp_in_nI (by omega) (by omega)) dL_law_464 ?_
  refine lv_aload_n hx hb dL_law_465 rfl (lv_at hl 0 rfl) ?_
  refine lv_iload_n hx hb dL_law_466 rfl (lv_at hl 3 rfl) ?_
  refine lv_iconst (v := 3) hx hb dL_law_467 (by decide) ?_
  refine lv_iadd hx hb dL_law_468 ?_
  refine va_sld hx hb hX hbl hbA hS (i := nI (5 * c0) + 3) (by rw [show (3 : Int32) = nI 3 from rfl, nI_add]; exact vp_in_nI (by omega) (by omega)) dL_law_469 ?_
  refine kL (As := [.int (xs (nI (5 * c0) + 1).toNatClampNeg), .int (xs (nI (5 * c0) + 2).toNatClampNeg), .int (xs (nI (5 * c0) + 3).toNatClampNeg)]) (rest := [.int z1]) (wr := wS a cB cI cZ (g1, r1, n1, rn1, lv1, lk1, ss1, rw1, sg1, od1, aw1, tb1, md1, ql1, dr1)) ⟨hx, hb, hml, hown, hts⟩ hMM (cwV 3 hts gL_X5_holds rfl rfl rfl (by decide +kernel) ⟨by decide, by decide⟩) hK hZ hA hP hD hS [0, 1, 2, 3, 4, 5, 6, 7, 8, 9, 10, 11, 12, 13, 14] [15, 16, 17, 18, 19, 20, 21, 22, 23, 24, 25, 26, 27, 28, 29, 30, 31] rfl rfl (by decide) (by decide) (by decide) 5 rfl rfl rfl hl.1 rfl (Nat.le_of_ble_eq_true rfl) dL_law_470 ⟨by decide, by decide⟩ (fun o w' H locs hp hP hD hS => ?_)
  obtain ⟨z2, v2, rfl, rfl, hend⟩ := hp
  refine W.eq (g2 := F0 m 473 ls [.int z2, .int z1]) rfl ?_
  have hfin := hend _ _ hNC
  refine lv_icmp_eq (tgt := 580) hx hb dL_law_473 (by decide) (fun _ => ?_) (fun hne => absurd hfin.1 hne)
  exact kk _ _ _ _ _ hfin.2 hP hD hS hl

set_option maxHeartbeats 4000000 in
set_option maxRecDepth 100000 in
theorem lw_case_12 {p : Program} {e : Env} {s : State} {m : MethodId} {below : List Frame} {meth : Method} {c : Code} (l : Launch) {G : va_G} {cB cI cZ : ClassId} {tc : Nat} {a b : Nat → Nat} {b0 L : Nat} {xs : Nat → Int32} (hL : L ≤ 2560) (C0 : lw_At p s m meth c b0 L xs) (hK : va_K G vwCl [(cB, .byte), (cI, .int), (cZ, .boolean)] s) (hZ : fw_Z tc (fun q : Nat => s.heap.size ≤ q) s s.heap) {c0 : Nat} (hc : 5 * c0 + 5 ≤ L) {u : CS} {v : MS} (hSim : sm_S c0 u v) {H : Heap} {locs : List Loc} {ls : Array Slot} (kk : ∀ (u : CS) (v : MS) (H : Heap) (locs : List Loc) (ls : Array Slot), sm_S (c0 + 1) u v → va_P G vwCl (wS a cB cI cZ u ++ wM b cB cI cZ v) H → va_D (fun q : Nat => s.heap.size ≤ q) (wS a cB cI cZ u ++ wM b cB cI cZ v) → va_S (fun q : Nat => s.heap.size ≤ q) s.heap H locs → lv_has ls 4 [(0, .ref b0), (1, .ref (a 0)), (2, .ref (b 0)), (3, .int (nI (5 * c0)))] → W p l e room_1 s m #[Value.ref b0] below meth c H locs 32 16790 (lw_Z below #[Value.ref b0] s) (F0 m 580 ls [])) : va_P G vwCl (wS a cB cI cZ u ++ wM b cB cI cZ v) H → va_D (fun q : Nat => s.heap.size ≤ q) (wS a cB cI cZ u ++ wM b cB cI cZ v) → va_S (fun q : Nat => s.heap.size ≤ q) s.heap H locs → lv_has ls 4 [(0, .ref b0), (1, .ref (a 0)), (2, .ref (b 0)), (3, .int (nI (5 * c0)))] → W p l e room_1 s m #[Value.ref b0] below meth c H locs 32 16790 (lw_Z below #[Value.ref b0] s) (F0 m 478 ls []) := by
  intro hP hD hS hl
  obtain ⟨hx, hb, hr, hml, hown, hts, hX, hbl, hlocks, hgv⟩ := C0
  have hA : ∀ q : Nat, s.heap.size ≤ q → (fun q : Nat => s.heap.size ≤ q) q := fun _ h => h
  have hbA : ¬ (fun q : Nat => s.heap.size ≤ q) b0 := Nat.not_le.mpr hbl
  have hown : s.vm.findClass RL = some m.cls := hown
  refine lv_aload_n hx hb dL_law_478 rfl (lv_at hl 1 rfl) ?_
  refine lv_aload_n hx hb dL_law_479 rfl (lv_at hl 0 rfl) ?_
  refine lv_iload_n hx hb dL_law_480 rfl (lv_at hl 3 rfl) ?_
  refine lv_iconst (v := 1) hx hb dL_law_481 (by decide) ?_
  refine lv_iadd hx hb dL_law_482 ?_
  refine va_sld hx hb hX hbl hbA hS (i := nI (5 * c0) + 1) (by rw [show (1 : Int32) = nI 1 from rfl, nI_add]; exact vp_in_nI (by omega) (by omega)) dL_law_483 ?_
  refine lv_aload_n hx hb dL_law_484 rfl (lv_at hl 0 rfl) ?_
  refine lv_iload_n hx hb dL_law_485 rfl (lv_at hl 3 rfl) ?_
  refine lv_iconst (v := 2) hx hb dL_law_486 (by decide) ?_
  refine lv_iadd hx hb dL_law_487 ?_
  refine va_sld hx hb hX hbl hbA hS (i := nI (5 * c0) + 2) (by rw [show (2 : Int32) = nI 2 from rfl, nI_add]; exact vp_in_nI (by omega) (by omega)) dL_law_488 ?_
  obtain ⟨NC, hMC, hMM⟩ := st_locker l G cB cI cZ tc a b hSim (by omega) (xs (nI (5 * c0) + 1).toNatClampNeg) (xs (nI (5 * c0) + 2).toNatClampNeg)
  obtain ⟨g, r, n, rn, lv, lk, ss, rw, sg, od, aw, tb, md, ql, dr⟩ := u
  obtain ⟨g2, t0, q, ag, ow, ru, hd, kd, tb2, md2, lv2, dr2, nb, bg, lr, lb, lh⟩ := v
  refine kL (As := [.int (xs (nI (5 * c0) + 1).toNatClampNeg), .int (xs (nI (5 * c0) + 2).toNatClampNeg)]) (rest := []) (wr := wM b cB cI cZ (g2, t0, q, ag, ow, ru, hd, kd, tb2, md2, lv2, dr2, nb, bg, lr, lb, lh)) ⟨hx, hb, hml, hown, hts⟩ hMC (cwV 2 hts gL_X4_locker rfl rfl rfl (by decide +kernel) ⟨by decide, by decide⟩) hK hZ hA hP hD hS [0, 1, 2, 3, 4, 5, 6, 7, 8, 9, 10, 11, 12, 13, 14, 15, 16] [17, 18, 19, 20, 21, 22, 23, 24, 25, 26, 27, 28, 29, 30, 31] rfl rfl (by decide) (by decide) (by decide) 4 rfl rfl rfl hl.1 rfl (Nat.le_of_ble_eq_true rfl) dL_law_489 ⟨by decide, by decide⟩ (fun o w' H locs hp hP hD hS => ?_)
  obtain ⟨z1, ⟨g1, r1, n1, rn1, lv1, lk1, ss1, rw1, sg1, od1, aw1, tb1, md1, ql1, dr1⟩, rfl, rfl, hNC⟩ := hp
  refine W.eq (g2 := F0 m 492 ls [.int z1]) rfl ?_
  refine lv_aload_n hx hb dL_law_492 rfl (lv_at hl 2 rfl) ?_
  refine lv_aload_n hx hb dL_law_493 rfl (lv_at hl 0 rfl) ?_
  refine lv_iload_n hx hb dL_law_494 rfl (lv_at hl 3 rfl) ?_
  refine lv_iconst (v := 1) hx hb dL_law_495 (by decide) ?_
  refine lv_iadd hx hb dL_law_496 ?_
  refine va_sld hx hb hX hbl hbA hS (i := nI (5 * c0) + 1) (by rw [show (1 : Int32) = nI 1 from rfl, nI_add]; exact vp_in_nI (by omega) (by omega)) dL_law_497 ?_
  refine lv_aload_n hx hb dL_law_498 rfl (lv_at hl 0 rfl) ?_
  refine lv_iload_n hx hb dL_law_499 rfl (lv_at hl 3 rfl) ?_
  refine lv_iconst (v := 2) hx hb dL_law_500 (by decide) ?_
  refine lv_iadd hx hb dL_law_501 ?_
  refine va_sld hx hb hX hbl hbA hS (i := nI (5 * c0) + 2) (by rw [show (2 : Int32) = nI 2 from rfl, nI_add]; exact vp_in_nI (by omega) (by omega)) dL_law_502 ?_
  refine kL (As := [.int (xs (nI (5 * c0) + 1).toNatClampNeg), .int (xs (nI (5 * c0) + 2).toNatClampNeg)]) (rest := [.int z1]) (wr := wS a cB cI cZ (g1, r1, n1, rn1, lv1, lk1, ss1, rw1, sg1, od1, aw1, tb1, md1, ql1, dr1)) ⟨hx, hb, hml, hown, hts⟩ hMM (cwV 2 hts gL_X5_locker rfl rfl rfl (by decide +kernel) ⟨by decide, by decide⟩) hK hZ hA hP hD hS [0, 1, 2, 3, 4, 5, 6, 7, 8, 9, 10, 11, 12, 13, 14] [15, 16, 17, 18, 19, 20, 21, 22, 23, 24, 25, 26, 27, 28, 29, 30, 31] rfl rfl (by decide) (by decide) (by decide) 5 rfl rfl rfl hl.1 rfl (Nat.le_of_ble_eq_true rfl) dL_law_503 ⟨by decide, by decide⟩ (fun o w' H locs hp hP hD hS => ?_)
  obtain ⟨z2, v2, rfl, rfl, hend⟩ := hp
  refine W.eq (g2 := F0 m 506 ls [.int z2, .int z1]) rfl ?_
  have hfin := hend _ _ hNC
  refine lv_icmp_eq (tgt := 580) hx hb dL_law_506 (by decide) (fun _ => ?_) (fun hne => absurd hfin.1 hne)
  exact kk _ _ _ _ _ hfin.2 hP hD hS hl

set_option maxHeartbeats 4000000 in
set_option maxRecDepth 100000 in
theorem lw_case_13 {p : Program} {e : Env} {s : State} {m : MethodId} {below : List Frame} {meth : Method} {c : Code} (l : Launch) {G : va_G} {cB cI cZ : ClassId} {tc : Nat} {a b : Nat → Nat} {b0 L : Nat} {xs : Nat → Int32} (hL : L ≤ 2560) (C0 : lw_At p s m meth c b0 L xs) (hK : va_K G vwCl [(cB, .byte), (cI, .int), (cZ, .boolean)] s) (hZ : fw_Z tc (fun q : Nat => s.heap.size ≤ q) s s.heap) {c0 : Nat} (hc : 5 * c0 + 5 ≤ L) {u : CS} {v : MS} (hSim : sm_S c0 u v) {H : Heap} {locs : List Loc} {ls : Array Slot} (kk : ∀ (u : CS) (v : MS) (H : Heap) (locs : List Loc) (ls : Array Slot), sm_S (c0 + 1) u v → va_P G vwCl (wS a cB cI cZ u ++ wM b cB cI cZ v) H → va_D (fun q : Nat => s.heap.size ≤ q) (wS a cB cI cZ u ++ wM b cB cI cZ v) → va_S (fun q : Nat => s.heap.size ≤ q) s.heap H locs → lv_has ls 4 [(0, .ref b0), (1, .ref (a 0)), (2, .ref (b 0)), (3, .int (nI (5 * c0)))] → W p l e room_1 s m #[Value.ref b0] below meth c H locs 32 16790 (lw_Z below #[Value.ref b0] s) (F0 m 580 ls [])) : va_P G vwCl (wS a cB cI cZ u ++ wM b cB cI cZ v) H → va_D (fun q : Nat => s.heap.size ≤ q) (wS a cB cI cZ u ++ wM b cB cI cZ v) → va_S (fun q : Nat => s.heap.size ≤ q) s.heap H locs → lv_has ls 4 [(0, .ref b0), (1, .ref (a 0)), (2, .ref (b 0)), (3, .int (nI (5 * c0)))] → W p l e room_1 s m #[Value.ref b0] below meth c H locs 32 16790 (lw_Z below #[Value.ref b0] s) (F0 m 511 ls []) := by
  intro hP hD hS hl
  obtain ⟨hx, hb, hr, hml, hown, hts, hX, hbl, hlocks, hgv⟩ := C0
  have hA : ∀ q : Nat, s.heap.size ≤ q → (fun q : Nat => s.heap.size ≤ q) q := fun _ h => h
  have hbA : ¬ (fun q : Nat => s.heap.size ≤ q) b0 := Nat.not_le.mpr hbl
  have hown : s.vm.findClass RL = some m.cls := hown
  refine lv_aload_n hx hb dL_law_511 rfl (lv_at hl 1 rfl) ?_
  refine lv_aload_n hx hb dL_law_512 rfl (lv_at hl 0 rfl) ?_
  refine lv_iload_n hx hb dL_law_513 rfl (lv_at hl 3 rfl) ?_
  refine lv_iconst (v := 1) hx hb dL_law_514 (by decide) ?_
  refine lv_iadd hx hb dL_law_515 ?_
  refine va_sld hx hb hX hbl hbA hS (i := nI (5 * c0) + 1) (by rw [show (1 : Int32) = nI 1 from rfl, nI_add]; exact vp_in_nI (by omega) (by omega)) dL_law_516 ?_
  obtain ⟨NC, hMC, hMM⟩ := st_on l G cB cI cZ tc a b hSim (by omega) (xs (nI (5 * c0) + 1).toNatClampNeg)
  obtain ⟨g, r, n, rn, lv, lk, ss, rw, sg, od, aw, tb, md, ql, dr⟩ := u
  obtain ⟨g2, t0, q, ag, ow, ru, hd, kd, tb2, md2, lv2, dr2, nb, bg, lr, lb, lh⟩ := v
  refine kL (As := [.int (xs (nI (5 * c0) + 1).toNatClampNeg)]) (rest := []) (wr := wM b cB cI cZ (g2, t0, q, ag, ow, ru, hd, kd, tb2, md2, lv2, dr2, nb, bg, lr, lb, lh)) ⟨hx, hb, hml, hown, hts⟩ hMC (cwV 1 hts gL_X4_on rfl rfl rfl (by decide +kernel) ⟨by decide, by decide⟩) hK hZ hA hP hD hS [0, 1, 2, 3, 4, 5, 6, 7, 8, 9, 10, 11, 12, 13, 14, 15, 16] [17, 18, 19, 20, 21, 22, 23, 24, 25, 26, 27, 28, 29, 30, 31] rfl rfl (by decide) (by decide) (by decide) 4 rfl rfl rfl hl.1 rfl (Nat.le_of_ble_eq_true rfl) dL_law_517 ⟨by decide, by decide⟩ (fun o w' H locs hp hP hD hS => ?_)
  obtain ⟨z1, ⟨g1, r1, n1, rn1, lv1, lk1, ss1, rw1, sg1, od1, aw1, tb1, md1, ql1, dr1⟩, rfl, rfl, hNC⟩ := hp
  refine W.eq (g2 := F0 m 520 ls [.int z1]) rfl ?_
  refine lv_aload_n hx hb dL_law_520 rfl (lv_at hl 2 rfl) ?_
  refine lv_aload_n hx hb dL_law_521 rfl (lv_at hl 0 rfl) ?_
  refine lv_iload_n hx hb dL_law_522 rfl (lv_at hl 3 rfl) ?_
  refine lv_iconst (v := 1) hx hb dL_law_523 (by decide) ?_
  refine lv_iadd hx hb dL_law_524 ?_
  refine va_sld hx hb hX hbl hbA hS (i := nI (5 * c0) + 1) (by rw [show (1 : Int32) = nI 1 from rfl, nI_add]; exact vp_in_nI (by omega) (by omega)) dL_law_525 ?_
  refine kL (As := [.int (xs (nI (5 * c0) + 1).toNatClampNeg)]) (rest := [.int z1]) (wr := wS a cB cI cZ (g1, r1, n1, rn1, lv1, lk1, ss1, rw1, sg1, od1, aw1, tb1, md1, ql1, dr1)) ⟨hx, hb, hml, hown, hts⟩ hMM (cwV 1 hts gL_X5_on rfl rfl rfl (by decide +kernel) ⟨by decide, by decide⟩) hK hZ hA hP hD hS [0, 1, 2, 3, 4, 5, 6, 7, 8, 9, 10, 11, 12, 13, 14] [15, 16, 17, 18, 19, 20, 21, 22, 23, 24, 25, 26, 27, 28, 29, 30, 31] rfl rfl (by decide) (by decide) (by decide) 5 rfl rfl rfl hl.1 rfl (Nat.le_of_ble_eq_true rfl) dL_law_526 ⟨by decide, by decide⟩ (fun o w' H locs hp hP hD hS => ?_)
  obtain ⟨z2, v2, rfl, rfl, hend⟩ := hp
  refine W.eq (g2 := F0 m 529 ls [.int z2, .int z1]) rfl ?_
  have hfin := hend _ _ hNC
  refine lv_icmp_eq (tgt := 580) hx hb dL_law_529 (by decide) (fun _ => ?_) (fun hne => absurd hfin.1 hne)
  exact kk _ _ _ _ _ hfin.2 hP hD hS hl

set_option maxHeartbeats 4000000 in
set_option maxRecDepth 100000 in
theorem lw_case_14 {p : Program} {e : Env} {s : State} {m : MethodId} {below : List Frame} {meth : Method} {c : Code} (l : Launch) {G : va_G} {cB cI cZ : ClassId} {tc : Nat} {a b : Nat → Nat} {b0 L : Nat} {xs : Nat → Int32} (hL : L ≤ 2560) (C0 : lw_At p s m meth c b0 L xs) (hK : va_K G vwCl [(cB, .byte), (cI, .int), (cZ, .boolean)] s) (hZ : fw_Z tc (fun q : Nat => s.heap.size ≤ q) s s.heap) {c0 : Nat} (hc : 5 * c0 + 5 ≤ L) {u : CS} {v : MS} (hSim : sm_S c0 u v) {H : Heap} {locs : List Loc} {ls : Array Slot} (kk : ∀ (u : CS) (v : MS) (H : Heap) (locs : List Loc) (ls : Array Slot), sm_S (c0 + 1) u v → va_P G vwCl (wS a cB cI cZ u ++ wM b cB cI cZ v) H → va_D (fun q : Nat => s.heap.size ≤ q) (wS a cB cI cZ u ++ wM b cB cI cZ v) → va_S (fun q : Nat => s.heap.size ≤ q) s.heap H locs → lv_has ls 4 [(0, .ref b0), (1, .ref (a 0)), (2, .ref (b 0)), (3, .int (nI (5 * c0)))] → W p l e room_1 s m #[Value.ref b0] below meth c H locs 32 16790 (lw_Z below #[Value.ref b0] s) (F0 m 580 ls [])) : va_P G vwCl (wS a cB cI cZ u ++ wM b cB cI cZ v) H → va_D (fun q : Nat => s.heap.size ≤ q) (wS a cB cI cZ u ++ wM b cB cI cZ v) → va_S (fun q : Nat => s.heap.size ≤ q) s.heap H locs → lv_has ls 4 [(0, .ref b0), (1, .ref (a 0)), (2, .ref (b 0)), (3, .int (nI (5 * c0)))] → W p l e room_1 s m #[Value.ref b0] below meth c H locs 32 16790 (lw_Z below #[Value.ref b0] s) (F0 m 534 ls []) := by
  intro hP hD hS hl
  obtain ⟨hx, hb, hr, hml, hown, hts, hX, hbl, hlocks, hgv⟩ := C0
  have hA : ∀ q : Nat, s.heap.size ≤ q → (fun q : Nat => s.heap.size ≤ q) q := fun _ h => h
  have hbA : ¬ (fun q : Nat => s.heap.size ≤ q) b0 := Nat.not_le.mpr hbl
  have hown : s.vm.findClass RL = some m.cls := hown
  refine lv_aload_n hx hb dL_law_534 rfl (lv_at hl 1 rfl) ?_
  refine lv_aload_n hx hb dL_law_535 rfl (lv_at hl 0 rfl) ?_
  refine lv_iload_n hx hb dL_law_536 rfl (lv_at hl 3 rfl) ?_
  refine lv_iconst (v := 1) hx hb dL_law_537 (by decide) ?_
  refine lv_iadd hx hb dL_law_538 ?_
  refine va_sld hx hb hX hbl hbA hS (i := nI (5 * c0) + 1) (by rw [show (1 : Int32) = nI 1 from rfl, nI_add]; exact vp_in_nI (by omega) (by omega)) dL_law_539 ?_
  obtain ⟨NC, hMC, hMM⟩ := st_waiting l G cB cI cZ tc a b hSim (by omega) (xs (nI (5 * c0) + 1).toNatClampNeg)
  obtain ⟨g, r, n, rn, lv, lk, ss, rw, sg, od, aw, tb, md, ql, dr⟩ := u
  obtain ⟨g2, t0, q, ag, ow, ru, hd, kd, tb2, md2, lv2, dr2, nb, bg, lr, lb, lh⟩ := v
  refine kL (As := [.int (xs (nI (5 * c0) + 1).toNatClampNeg)]) (rest := []) (wr := wM b cB cI cZ (g2, t0, q, ag, ow, ru, hd, kd, tb2, md2, lv2, dr2, nb, bg, lr, lb, lh)) ⟨hx, hb, hml, hown, hts⟩ hMC (cwV 1 hts gL_X4_waiting rfl rfl rfl (by decide +kernel) ⟨by decide, by decide⟩) hK hZ hA hP hD hS [0, 1, 2, 3, 4, 5, 6, 7, 8, 9, 10, 11, 12, 13, 14, 15, 16] [17, 18, 19, 20, 21, 22, 23, 24, 25, 26, 27, 28, 29, 30, 31] rfl rfl (by decide) (by decide) (by decide) 4 rfl rfl rfl hl.1 rfl (Nat.le_of_ble_eq_true rfl) dL_law_540 ⟨by decide, by decide⟩ (fun o w' H locs hp hP hD hS => ?_)
  obtain ⟨z1, ⟨g1, r1, n1, rn1, lv1, lk1, ss1, rw1, sg1, od1, aw1, tb1, md1, ql1, dr1⟩, rfl, rfl, hNC⟩ := hp
  refine W.eq (g2 := F0 m 543 ls [.int z1]) rfl ?_
  refine lv_aload_n hx hb dL_law_543 rfl (lv_at hl 2 rfl) ?_
  refine lv_aload_n hx hb dL_law_544 rfl (lv_at hl 0 rfl) ?_
  refine lv_iload_n hx hb dL_law_545 rfl (lv_at hl 3 rfl) ?_
  refine lv_iconst (v := 1) hx hb dL_law_546 (by decide) ?_
  refine lv_iadd hx hb dL_law_547 ?_
  refine va_sld hx hb hX hbl hbA hS (i := nI (5 * c0) + 1) (by rw [show (1 : Int32) = nI 1 from rfl, nI_add]; exact vp_in_nI (by omega) (by omega)) dL_law_548 ?_
  refine kL (As := [.int (xs (nI (5 * c0) + 1).toNatClampNeg)]) (rest := [.int z1]) (wr := wS a cB cI cZ (g1, r1, n1, rn1, lv1, lk1, ss1, rw1, sg1, od1, aw1, tb1, md1, ql1, dr1)) ⟨hx, hb, hml, hown, hts⟩ hMM (cwV 1 hts gL_X5_waiting rfl rfl rfl (by decide +kernel) ⟨by decide, by decide⟩) hK hZ hA hP hD hS [0, 1, 2, 3, 4, 5, 6, 7, 8, 9, 10, 11, 12, 13, 14] [15, 16, 17, 18, 19, 20, 21, 22, 23, 24, 25, 26, 27, 28, 29, 30, 31] rfl rfl (by decide) (by decide) (by decide) 5 rfl rfl rfl hl.1 rfl (Nat.le_of_ble_eq_true rfl) dL_law_549 ⟨by decide, by decide⟩ (fun o w' H locs hp hP hD hS => ?_)
  obtain ⟨z2, v2, rfl, rfl, hend⟩ := hp
  refine W.eq (g2 := F0 m 552 ls [.int z2, .int z1]) rfl ?_
  have hfin := hend _ _ hNC
  refine lv_icmp_eq (tgt := 580) hx hb dL_law_552 (by decide) (fun _ => ?_) (fun hne => absurd hfin.1 hne)
  exact kk _ _ _ _ _ hfin.2 hP hD hS hl

set_option maxHeartbeats 4000000 in
set_option maxRecDepth 100000 in
theorem lw_case_15 {p : Program} {e : Env} {s : State} {m : MethodId} {below : List Frame} {meth : Method} {c : Code} (l : Launch) {G : va_G} {cB cI cZ : ClassId} {tc : Nat} {a b : Nat → Nat} {b0 L : Nat} {xs : Nat → Int32} (hL : L ≤ 2560) (C0 : lw_At p s m meth c b0 L xs) (hK : va_K G vwCl [(cB, .byte), (cI, .int), (cZ, .boolean)] s) (hZ : fw_Z tc (fun q : Nat => s.heap.size ≤ q) s s.heap) {c0 : Nat} (hc : 5 * c0 + 5 ≤ L) {u : CS} {v : MS} (hSim : sm_S c0 u v) {H : Heap} {locs : List Loc} {ls : Array Slot} (kk : ∀ (u : CS) (v : MS) (H : Heap) (locs : List Loc) (ls : Array Slot), sm_S (c0 + 1) u v → va_P G vwCl (wS a cB cI cZ u ++ wM b cB cI cZ v) H → va_D (fun q : Nat => s.heap.size ≤ q) (wS a cB cI cZ u ++ wM b cB cI cZ v) → va_S (fun q : Nat => s.heap.size ≤ q) s.heap H locs → lv_has ls 4 [(0, .ref b0), (1, .ref (a 0)), (2, .ref (b 0)), (3, .int (nI (5 * c0)))] → W p l e room_1 s m #[Value.ref b0] below meth c H locs 32 16790 (lw_Z below #[Value.ref b0] s) (F0 m 580 ls [])) : va_P G vwCl (wS a cB cI cZ u ++ wM b cB cI cZ v) H → va_D (fun q : Nat => s.heap.size ≤ q) (wS a cB cI cZ u ++ wM b cB cI cZ v) → va_S (fun q : Nat => s.heap.size ≤ q) s.heap H locs → lv_has ls 4 [(0, .ref b0), (1, .ref (a 0)), (2, .ref (b 0)), (3, .int (nI (5 * c0)))] → W p l e room_1 s m #[Value.ref b0] below meth c H locs 32 16790 (lw_Z below #[Value.ref b0] s) (F0 m 557 ls []) := by
  intro hP hD hS hl
  obtain ⟨hx, hb, hr, hml, hown, hts, hX, hbl, hlocks, hgv⟩ := C0
  have hA : ∀ q : Nat, s.heap.size ≤ q → (fun q : Nat => s.heap.size ≤ q) q := fun _ h => h
  have hbA : ¬ (fun q : Nat => s.heap.size ≤ q) b0 := Nat.not_le.mpr hbl
  have hown : s.vm.findClass RL = some m.cls := hown
  refine lv_aload_n hx hb dL_law_557 rfl (lv_at hl 1 rfl) ?_
  refine lv_aload_n hx hb dL_law_558 rfl (lv_at hl 0 rfl) ?_
  refine lv_iload_n hx hb dL_law_559 rfl (lv_at hl 3 rfl) ?_
  refine lv_iconst (v := 1) hx hb dL_law_560 (by decide) ?_
  refine lv_iadd hx hb dL_law_561 ?_
  refine va_sld hx hb hX hbl hbA hS (i := nI (5 * c0) + 1) (by rw [show (1 : Int32) = nI 1 from rfl, nI_add]; exact vp_in_nI (by omega) (by omega)) dL_law_562 ?_
  obtain ⟨NC, hMC, hMM⟩ := st_wish l G cB cI cZ tc a b hSim (by omega) (xs (nI (5 * c0) + 1).toNatClampNeg)
  obtain ⟨g, r, n, rn, lv, lk, ss, rw, sg, od, aw, tb, md, ql, dr⟩ := u
  obtain ⟨g2, t0, q, ag, ow, ru, hd, kd, tb2, md2, lv2, dr2, nb, bg, lr, lb, lh⟩ := v
  refine kL (As := [.int (xs (nI (5 * c0) + 1).toNatClampNeg)]) (rest := []) (wr := wM b cB cI cZ (g2, t0, q, ag, ow, ru, hd, kd, tb2, md2, lv2, dr2, nb, bg, lr, lb, lh)) ⟨hx, hb, hml, hown, hts⟩ hMC (cwV 1 hts gL_X4_wish rfl rfl rfl (by decide +kernel) ⟨by decide, by decide⟩) hK hZ hA hP hD hS [0, 1, 2, 3, 4, 5, 6, 7, 8, 9, 10, 11, 12, 13, 14, 15, 16] [17, 18, 19, 20, 21, 22, 23, 24, 25, 26, 27, 28, 29, 30, 31] rfl rfl (by decide) (by decide) (by decide) 4 rfl rfl rfl hl.1 rfl (Nat.le_of_ble_eq_true rfl) dL_law_563 ⟨by decide, by decide⟩ (fun o w' H locs hp hP hD hS => ?_)
  obtain ⟨z1, ⟨g1, r1, n1, rn1, lv1, lk1, ss1, rw1, sg1, od1, aw1, tb1, md1, ql1, dr1⟩, rfl, rfl, hNC⟩ := hp
  refine W.eq (g2 := F0 m 566 ls [.int z1]) rfl ?_
  refine lv_aload_n hx hb dL_law_566 rfl (lv_at hl 2 rfl) ?_
  refine lv_aload_n hx hb dL_law_567 rfl (lv_at hl 0 rfl) ?_
  refine lv_iload_n hx hb dL_law_568 rfl (lv_at hl 3 rfl) ?_
  refine lv_iconst (v := 1) hx hb dL_law_569 (by decide) ?_
  refine lv_iadd hx hb dL_law_570 ?_
  refine va_sld hx hb hX hbl hbA hS (i := nI (5 * c0) + 1) (by rw [show (1 : Int32) = nI 1 from rfl, nI_add]; exact vp_in_nI (by omega) (by omega)) dL_law_571 ?_
  refine kL (As := [.int (xs (nI (5 * c0) + 1).toNatClampNeg)]) (rest := [.int z1]) (wr := wS a cB cI cZ (g1, r1, n1, rn1, lv1, lk1, ss1, rw1, sg1, od1, aw1, tb1, md1, ql1, dr1)) ⟨hx, hb, hml, hown, hts⟩ hMM (cwV 1 hts gL_X5_wish rfl rfl rfl (by decide +kernel) ⟨by decide, by decide⟩) hK hZ hA hP hD hS [0, 1, 2, 3, 4, 5, 6, 7, 8, 9, 10, 11, 12, 13, 14] [15, 16, 17, 18, 19, 20, 21, 22, 23, 24, 25, 26, 27, 28, 29, 30, 31] rfl rfl (by decide) (by decide) (by decide) 5 rfl rfl rfl hl.1 rfl (Nat.le_of_ble_eq_true rfl) dL_law_572 ⟨by decide, by decide⟩ (fun o w' H locs hp hP hD hS => ?_)
  obtain ⟨z2, v2, rfl, rfl, hend⟩ := hp
  refine W.eq (g2 := F0 m 575 ls [.int z2, .int z1]) rfl ?_
  have hfin := hend _ _ hNC
  refine lv_icmp_eq (tgt := 580) hx hb dL_law_575 (by decide) (fun _ => ?_) (fun hne => absurd hfin.1 hne)
  exact kk _ _ _ _ _ hfin.2 hP hD hS hl
