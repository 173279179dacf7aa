/-! The frame of this proof: one contract form for every method that makes no cell. -/
def fw_it {σ : Type} (f : Nat → σ → σ) : Nat → σ → σ
  | 0, x => x
  | n + 1, x => f n (fw_it f n x)
theorem fw_it0 {σ : Type} (f : Nat → σ → σ) (x : σ) : fw_it f 0 x = x := rfl
theorem fw_itS {σ : Type} (f : Nat → σ → σ) (n : Nat) (x : σ) : fw_it f (n + 1) x = f n (fw_it f n x) := rfl
/-- the class's table of conflicts -/
def fw_cfI : Nat → Int32
  | 0 => 0
  | 1 => 256
  | 2 => 384
  | 3 => 480
  | 4 => 496
  | 5 => 472
  | 6 => 504
  | 7 => 508
  | _ => 510
def fw_cf (j : Nat) : Value := .int (fw_cfI j)
def fw_Z (tc : Nat) (A : Nat → Prop) (U : State) (H : Heap) : Prop :=
  va_Nw (.methodLinkNest RX0 25 yX4_conflict RX4) U ∧ va_Nw (.methodLinkNest RX2 47 yX4_conflict RX4) U ∧ va_Z RX4 "CONFLICTS" "[I" (.ref tc) A U H ∧ va_T .int tc 9 fw_cf A U H
theorem fw_Z.to {tc : Nat} {A B : Nat → Prop} {s U : State} {H : Heap} {locs : List Loc} (h : fw_Z tc A s s.heap) (hW : s.WarmedH U.vm) (hS : va_S A s.heap H locs) (hAB : ∀ q, B q → A q) : fw_Z tc B U H := by
  obtain ⟨h1, h2, h3, h4⟩ := h
  exact ⟨va_Nw.warmM hW h1, va_Nw.warmM hW h2, va_Z.moved hW.alike ((h3.kept (fun a ha hn => hS.2.1 a ha hn)).narrow hAB), va_T.moved hW.alike ((h4.kept (fun a ha hn => hS.2.1 a ha hn)).narrow hAB)⟩
theorem fw_Z.call {tc : Nat} {A : Nat → Prop} {U : State} {g : JFrame} {mk : MethodId} {a : Array Value} (h : fw_Z tc A U U.heap) : fw_Z tc A (U.calling g mk a) (U.calling g mk a).heap := by
  obtain ⟨h1, h2, h3, h4⟩ := h
  exact ⟨va_Nw.same rfl (u := U) (U := U.calling g mk a) rfl h1, va_Nw.same rfl (u := U) (U := U.calling g mk a) rfl h2, va_Z.moved (u := U) (U := U.calling g mk a) (Vm.Alike.refl U.vm) h3, va_T.moved (u := U) (U := U.calling g mk a) (Vm.Alike.refl U.vm) h4⟩
/-- what a method's start is -/
def fw_B (G : va_G) (tys : List (ClassId × FieldType)) (tc : Nat) (ws : va_W) (sz : Nat) (U : State) : Prop :=
  U.heap.size = sz ∧ va_P G vwCl ws U.heap ∧ va_K G vwCl tys U ∧ va_D (fun _ => True) ws ∧ fw_Z tc (va_A ws sz) U U.heap
def fw_Q (G : va_G) (ws : va_W) (sz : Nat) (post : Option Value → va_W → Prop) : Array Value → State → Outcome → State → Prop := fun _ st o t =>
  (∃ (v : Option Value) (w' : va_W), o = .returned v ∧ post v w' ∧ va_P G vwCl w' t.heap ∧ va_D (va_A ws sz) w') ∧ va_F (va_A ws sz) st t
def KC (l : Launch) (y : MethodName) (wsy : List Cond) (rm : Room) (G : va_G) (tys : List (ClassId × FieldType)) (tc : Nat) (av : List Value) (ws : va_W) (post : Option Value → va_W → Prop) : Prop :=
  ∀ sz : Nat, Met l y wsy rm (va_Pc av (fw_B G tys tc ws sz)) (fw_Q G ws sz post) 0 0 (va_A ws sz)
theorem fw_blind {G : va_G} {tys : List (ClassId × FieldType)} {tc : Nat} {av : List Value} {ws : va_W} {sz : Nat} : FrameBlind (va_Pc av (fw_B G tys tc ws sz)) := by
  intro a U g mk q
  obtain ⟨q0, q1, qP, qK, qD, qZ⟩ := q
  exact ⟨q0, q1, qP, va_K.moved (u := U) (U := U.calling g mk a) (Vm.Alike.refl U.vm) qK, qD, qZ.call⟩
theorem KC.of {l : Launch} {y : MethodName} {wsy ws' : List Cond} {rm : Room} {G : va_G} {tys : List (ClassId × FieldType)} {tc : Nat} {av : List Value} {ws : va_W} {post : Option Value → va_W → Prop} {cc : ByteArray} {maxL : Nat} {ret : Option FieldType}
    (hy : plainName y.cls = true) (hw : wsy = Cond.code y cc maxL ret :: ws') (hlen : (lg_sl av).length ≤ maxL)
    (body : ∀ (p : Program) (e : Env) (s : State) (m : MethodId) (below : List Frame) (meth : Method) (c : Code) (args : Array Value) (A : Nat → Prop) (Q : State → Prop) (ls : Array Slot),
      p.tables.exec = Jvm.exec → c.code = cc → c.maxLocals = maxL → s.vm.findClass y.cls = some m.cls → (∀ w ∈ wsy, w.before args s = true) → va_K G vwCl tys s → fw_Z tc A s s.heap → (∀ q, s.heap.size ≤ q → A q) →
      va_P G vwCl ws s.heap → va_D A ws → va_S A s.heap s.heap [] → lv_has ls maxL (lv_args 0 av) →
      (∀ ty : FieldType, ret = some ty → ∀ (v : Int32) (w' : va_W) (H : Heap) (locs : List Loc) (pc : Nat) (ls : Array Slot), narrow ty (.int v) = .int v → post (some (.int v)) w' → va_P G vwCl w' H → va_D A w' → va_S A s.heap H locs → decode cc pc = .ok (.ireturn, 1) → W p l e rm s m args below meth c H locs 0 0 Q (F0 m pc ls [.int v])) →
      (ret = none → ∀ (w' : va_W) (H : Heap) (locs : List Loc) (pc : Nat) (ls : Array Slot), post none w' → va_P G vwCl w' H → va_D A w' → va_S A s.heap H locs → decode cc pc = .ok (.return_, 1) → W p l e rm s m args below meth c H locs 0 0 Q (F0 m pc ls [])) →
      W p l e rm s m args below meth c s.heap [] 0 0 Q (F0 m 0 ls [])) : KC l y wsy rm G tys tc av ws post := by
  intro sz
  refine Met.ofW (cc := cc) (maxL := maxL) (ret := ret) hy hw ?_
  intro p e s m args below meth c s₁ B hml hv
  obtain ⟨rfl, hsz, hP, hK, hD0, hZ⟩ := hv
  subst hsz
  have hl := lv_entry av (n := maxL) hlen
  rw [lg_entry_eq]
  have hlocks := B.notSynchronized
  refine body p e s m below meth c av.toArray (va_A ws s.heap.size) _ _ B.exec B.bytes hml (findClass_of_methodNamed B.named) (atoms_spec (ws := wsy) B.pre) hK hZ (fun q h => Or.inr h) hP hD0.self va_S.rf hl ?_ ?_
  · intro ty hty v w' H locs pc ls hn hpost hP hD hS hd
    exact W.zret B.exec B.bytes (B.returns.trans hty) hn (fun t ht hW => ⟨⟨some (.int v), w', rfl, hpost, by rw [ht]; exact hP, hD⟩, hS.F ht⟩) hS.2.2 hd hlocks
  · intro hret w' H locs pc ls hpost hP hD hS hd
    exact W.vret B.exec B.bytes (B.returns.trans hret) (fun t ht hW => ⟨⟨none, w', rfl, hpost, by rw [ht]; exact hP, hD⟩, hS.F ht⟩) hS.2.2 hd hlocks
section FWC
variable {p : Program} {l : Launch} {e : Env} {R : Room} {s : State} {m : MethodId} {args : Array Value} {below : List Frame} {meth : Method} {c : Code} {H : Heap} {locs : List Loc} {cells slots : Nat} {Q : State → Prop}
variable {y : MethodName} {bytes cc : ByteArray} {maxL nL n index : Nat} {ret : Option FieldType} {wsy : List Cond} {rm : Room} {Ts : List Cond} {own C host : String} {b : Addr} {As rest st0 : List Value} {pc : Nat} {ls : Array Slot}
variable {G : va_G} {tys : List (ClassId × FieldType)} {tc : Nat} {ws : va_W} {post : Option Value → va_W → Prop} {A : Nat → Prop}
/-- what a call leaves: the callee's post, its world, the frame -/
theorem fw_after {a : Array Value} (hr : va_Run p l e R s m args below meth c H locs cells slots 0 0 (F0 m pc ls st0) rest (fw_Q G ws H.size post a) (va_A ws H.size)) (hS : va_S A s.heap H locs) (hF : ∀ q, va_A ws H.size q → A q)
    (kk : ∀ (v : Option Value) (w' : va_W) (H1 : Heap) (locs1 : List Loc), post v w' → va_P G vwCl w' H1 → va_D A w' → va_S A s.heap H1 locs1 → W p l e R s m args below meth c H1 locs1 cells slots Q (F0 m (pc + 3) ls (v.toList ++ rest))) : W p l e R s m args below meth c H locs cells slots Q (F0 m pc ls st0) := by
  intro T hT X
  obtain ⟨v, st₀, t, T', L, h0, X', hL, e1, e2, ⟨⟨v', w', hv, hp, hPw, hDw⟩, hz, hk⟩, st⟩ := hr T hT X
  cases hv
  rw [h0] at hz hk
  obtain ⟨t2, a1, b1⟩ := kk v w' T'.heap (locs ++ L) hp (by rw [e1]; exact hPw) (hDw.weaken (fun k q _ h => hF q.1 h))
    ⟨Nat.le_trans hS.1 (by rw [e1]; exact hz), fun q h1 h2 => by rw [e1, hk q (Nat.lt_of_lt_of_le h1 hS.1) (fun z => h2 (hF q z))]; exact hS.2.1 q h1 h2, fun q hq => by
      rcases List.mem_append.mp hq with h | h
      · exact hS.2.2 q h
      · exact hF _ (hL q h)⟩ T' rfl X'
  exact ⟨t2, st t2 a1, b1⟩
theorem fw_freeA {H0 : Heap} (hD : va_D A ws) (hS : va_S A H0 H locs) (hA : ∀ q, H0.size ≤ q → A q) : ∀ q, va_A ws H.size q → A q := by
  intro q h
  rcases h with ⟨k, e, h⟩ | h
  · exact hD.2 k (q, e) h
  · exact hA q (Nat.le_trans hS.1 h)
theorem fw_preU {av : List Value} (hK : va_K G vwCl tys s) (hZ : fw_Z tc A s s.heap) (hF : ∀ q, va_A ws H.size q → A q) (hP : va_P G vwCl ws H) (hD : va_D A ws) (hS : va_S A s.heap H locs) (U : State) (hU : U.heap = H) (hW : s.WarmedH U.vm) : va_Pc av (fw_B G tys tc ws H.size) av.toArray U := by
  subst hU
  exact ⟨rfl, rfl, hP, va_K.moved hW.alike hK, hD.weaken (fun _ _ _ _ => trivial), hZ.to hW hS hF⟩
/-- a call of an instance method on the whole world -/
theorem kV (S : CallFix p m c cc nL s args Ts own) (hM : KC l y wsy rm G tys tc (.ref b :: As) ws post) (cw : CallW R s args own C index y bytes maxL ret wsy rm 0 0 n)
    (hK : va_K G vwCl tys s) (hZ : fw_Z tc A s s.heap) (hA : ∀ q, s.heap.size ≤ q → A q) (hP : va_P G vwCl ws H) (hD : va_D A ws) (hS : va_S A s.heap H locs)
    (q0 ci : Nat) {T : u_T} {N : Nat} {fs : List Value} (hc : vwCl[ci]? = some (C, T, N)) (he : ws[q0]? = some (b, .inr (ci, fs)))
    (hn : As.length = n) (hsize : ls.size = nL) (hst : st0 = As.reverse ++ .ref b :: rest) (hroom : (rest.map fun v => v.category).sum ≤ 8) (hdg : decode cc pc = .ok (.invokevirtual index, 3)) (hf : cells ≤ R.cells ∧ slots ≤ R.slots)
    (kk : ∀ (v : Option Value) (w' : va_W) (H1 : Heap) (locs1 : List Loc), post v w' → va_P G vwCl w' H1 → va_D A w' → va_S A s.heap H1 locs1 → W p l e R s m args below meth c H1 locs1 cells slots Q (F0 m (pc + 3) ls (v.toList ++ rest))) : W p l e R s m args below meth c H locs cells slots Q (F0 m pc ls st0) := by
  have hF := fw_freeA (H := H) hD hS hA
  exact fw_after (va_runV (As := As) (rest := rest) S (hM H.size) cw ⟨fw_blind, va_recv hK hP hc he, fun U hU hW => fw_preU hK hZ hF hP hD hS U hU hW⟩ rfl hn hsize hst (lv_room hroom) hdg hf) hS hF kk
/-- a call of a static method -/
theorem kS (S : CallFix p m c cc nL s args Ts own) (hM : KC l y wsy rm G tys tc As ws post) (cw : CallB R s args own index y bytes maxL ret wsy rm 0 0 n ∧ (Cond.static y).before args s = true)
    (hK : va_K G vwCl tys s) (hZ : fw_Z tc A s s.heap) (hA : ∀ q, s.heap.size ≤ q → A q) (hP : va_P G vwCl ws H) (hD : va_D A ws) (hS : va_S A s.heap H locs)
    (hn : As.length = n) (hsize : ls.size = nL) (hst : st0 = As.reverse ++ rest) (hroom : (rest.map fun v => v.category).sum ≤ 8) (hdg : decode cc pc = .ok (.invokestatic index, 3)) (hf : cells ≤ R.cells ∧ slots ≤ R.slots)
    (kk : ∀ (v : Option Value) (w' : va_W) (H1 : Heap) (locs1 : List Loc), post v w' → va_P G vwCl w' H1 → va_D A w' → va_S A s.heap H1 locs1 → W p l e R s m args below meth c H1 locs1 cells slots Q (F0 m (pc + 3) ls (v.toList ++ rest))) : W p l e R s m args below meth c H locs cells slots Q (F0 m pc ls st0) := by
  have hF := fw_freeA (H := H) hD hS hA
  exact fw_after (va_runS (As := As) (rest := rest) S (hM H.size) cw ⟨fw_blind, fun U hU hW => fw_preU hK hZ hF hP hD hS U hU hW⟩ rfl hn hsize hst (lv_room hroom) hdg hf) hS hF kk
/-- a call of a private static method of a nest mate -/
theorem kSN (S : CallFix p m c cc nL s args Ts own) (hM : KC l y wsy rm G tys tc As ws post) (cw : va_CN R s args own index y host bytes maxL ret wsy rm 0 0 n ∧ (Cond.static y).before args s = true ∧ True)
    (hK : va_K G vwCl tys s) (hZ : fw_Z tc A s s.heap) (hA : ∀ q, s.heap.size ≤ q → A q) (hP : va_P G vwCl ws H) (hD : va_D A ws) (hS : va_S A s.heap H locs)
    (hn : As.length = n) (hsize : ls.size = nL) (hst : st0 = As.reverse ++ rest) (hroom : (rest.map fun v => v.category).sum ≤ 8) (hdg : decode cc pc = .ok (.invokestatic index, 3)) (hf : cells ≤ R.cells ∧ slots ≤ R.slots)
    (kk : ∀ (v : Option Value) (w' : va_W) (H1 : Heap) (locs1 : List Loc), post v w' → va_P G vwCl w' H1 → va_D A w' → va_S A s.heap H1 locs1 → W p l e R s m args below meth c H1 locs1 cells slots Q (F0 m (pc + 3) ls (v.toList ++ rest))) : W p l e R s m args below meth c H locs cells slots Q (F0 m pc ls st0) := by
  have hF := fw_freeA (H := H) hD hS hA
  exact fw_after (va_runSN (As := As) (rest := rest) S (hM H.size) cw ⟨fw_blind, fun U hU hW => fw_preU hK hZ hF hP hD hS U hU hW⟩ rfl hn hsize hst (lv_room hroom) hdg hf) hS hF kk
end FWC

theorem fw_inc (i : Nat) : nI i + Int32.ofInt 1 = nI (i + 1) := nI_1 i
section FWA
variable {p : Program} {l : Launch} {e : Env} {R : Room} {s : State} {m : MethodId} {args : Array Value} {below : List Frame} {meth : Method} {c : Code} {H : Heap} {locs : List Loc} {cells slots : Nat} {Q : State → Prop}
variable {cc : ByteArray} {pc : Nat} {ls : Array Slot} {rest : List Value} {D : va_G} {cl : List vw_C} {A : Nat → Prop} {ad : Nat} {tys : List (ClassId × FieldType)} {ws : va_W} {H0 : Heap} {j : Nat}
theorem fw_iald (hexec : p.tables.exec = Jvm.exec) (hb : c.code = cc) (hK : va_K D cl tys s) (hP : va_P D cl ws H) (q0 t0 : Nat) {cA : ClassId} {n : Nat} {f : Nat → Int32} (ha : ws[q0]? = some (ad, .inl (cA, n, .inl f))) (ht : tys[t0]? = some (cA, .int)) (hj : j < n) (hn : n < 2 ^ 31) (hdg : decode cc pc = .ok (.iaload, 1))
    (kk : W p l e R s m args below meth c H locs cells slots Q (F0 m (pc + 1) ls (.int (f j) :: rest))) : W p l e R s m args below meth c H locs cells slots Q (F0 m pc ls (.int (nI j) :: .ref ad :: rest)) := by
  refine va_iald hexec hb hK hP q0 t0 ha ht (vp_in_nI hj hn) hdg ?_
  rw [nI_clamp (Nat.lt_trans hj hn)]
  exact kk
theorem fw_bald (hexec : p.tables.exec = Jvm.exec) (hb : c.code = cc) (hK : va_K D cl tys s) (hP : va_P D cl ws H) (q0 t0 : Nat) {cA : ClassId} {n : Nat} {f : Nat → Int32} (ha : ws[q0]? = some (ad, .inl (cA, n, .inl f))) (ht : tys[t0]? = some (cA, .byte)) (hj : j < n) (hn : n < 2 ^ 31) (hdg : decode cc pc = .ok (.baload, 1))
    (kk : W p l e R s m args below meth c H locs cells slots Q (F0 m (pc + 1) ls (.int (f j) :: rest))) : W p l e R s m args below meth c H locs cells slots Q (F0 m pc ls (.int (nI j) :: .ref ad :: rest)) := by
  refine va_bald hexec hb hK hP q0 t0 ha ht (vp_in_nI hj hn) hdg ?_
  rw [nI_clamp (Nat.lt_trans hj hn)]
  exact kk
theorem fw_zald (hexec : p.tables.exec = Jvm.exec) (hb : c.code = cc) (hK : va_K D cl tys s) (hP : va_P D cl ws H) (q0 t0 : Nat) {cA : ClassId} {n : Nat} {f : Nat → Int32} (ha : ws[q0]? = some (ad, .inl (cA, n, .inl f))) (ht : tys[t0]? = some (cA, .boolean)) (hj : j < n) (hn : n < 2 ^ 31) (hdg : decode cc pc = .ok (.baload, 1))
    (kk : W p l e R s m args below meth c H locs cells slots Q (F0 m (pc + 1) ls (.int (f j) :: rest))) : W p l e R s m args below meth c H locs cells slots Q (F0 m pc ls (.int (nI j) :: .ref ad :: rest)) := by
  refine va_zald hexec hb hK hP q0 t0 ha ht (vp_in_nI hj hn) hdg ?_
  rw [nI_clamp (Nat.lt_trans hj hn)]
  exact kk
theorem fw_iast (hexec : p.tables.exec = Jvm.exec) (hb : c.code = cc) (hK : va_K D cl tys s) (hP : va_P D cl ws H) (hD : va_D A ws) (hS : va_S A H0 H locs) (q0 t0 : Nat) {cA : ClassId} {n : Nat} {f : Nat → Int32} {x : Int32} (ha : ws[q0]? = some (ad, .inl (cA, n, .inl f))) (ht : tys[t0]? = some (cA, .int)) (hj : j < n) (hn : n < 2 ^ 31) (hdg : decode cc pc = .ok (.iastore, 1))
    (kk : ∀ (H1 : Heap) (locs1 : List Loc), va_P D cl (ws.set q0 (ad, .inl (cA, n, .inl (upd f j x)))) H1 → va_D A (ws.set q0 (ad, .inl (cA, n, .inl (upd f j x)))) → va_S A H0 H1 locs1 → W p l e R s m args below meth c H1 locs1 cells slots Q (F0 m (pc + 1) ls rest)) : W p l e R s m args below meth c H locs cells slots Q (F0 m pc ls (.int x :: .int (nI j) :: .ref ad :: rest)) := by
  refine va_iast hexec hb hK hP hD hS q0 t0 ha ht (vp_in_nI hj hn) hdg (fun H1 locs1 h1 h2 h3 => ?_)
  rw [nI_clamp (Nat.lt_trans hj hn)] at h1 h2
  exact kk H1 locs1 h1 h2 h3
theorem fw_bast (hexec : p.tables.exec = Jvm.exec) (hb : c.code = cc) (hK : va_K D cl tys s) (hP : va_P D cl ws H) (hD : va_D A ws) (hS : va_S A H0 H locs) (q0 t0 : Nat) {cA : ClassId} {n : Nat} {f : Nat → Int32} {x : Int32} (ha : ws[q0]? = some (ad, .inl (cA, n, .inl f))) (ht : tys[t0]? = some (cA, .byte)) (hj : j < n) (hn : n < 2 ^ 31) (hnar : vp_nar .byte x = x) (hdg : decode cc pc = .ok (.bastore, 1))
    (kk : ∀ (H1 : Heap) (locs1 : List Loc), va_P D cl (ws.set q0 (ad, .inl (cA, n, .inl (upd f j x)))) H1 → va_D A (ws.set q0 (ad, .inl (cA, n, .inl (upd f j x)))) → va_S A H0 H1 locs1 → W p l e R s m args below meth c H1 locs1 cells slots Q (F0 m (pc + 1) ls rest)) : W p l e R s m args below meth c H locs cells slots Q (F0 m pc ls (.int x :: .int (nI j) :: .ref ad :: rest)) := by
  refine va_bast hexec hb hK hP hD hS q0 t0 ha ht (vp_in_nI hj hn) hdg (fun H1 locs1 h1 h2 h3 => ?_)
  rw [nI_clamp (Nat.lt_trans hj hn), hnar] at h1 h2
  exact kk H1 locs1 h1 h2 h3
theorem fw_zast (hexec : p.tables.exec = Jvm.exec) (hb : c.code = cc) (hK : va_K D cl tys s) (hP : va_P D cl ws H) (hD : va_D A ws) (hS : va_S A H0 H locs) (q0 t0 : Nat) {cA : ClassId} {n : Nat} {f : Nat → Int32} {x : Int32} (ha : ws[q0]? = some (ad, .inl (cA, n, .inl f))) (ht : tys[t0]? = some (cA, .boolean)) (hj : j < n) (hn : n < 2 ^ 31) (hnar : vp_nar .boolean x = x) (hdg : decode cc pc = .ok (.bastore, 1))
    (kk : ∀ (H1 : Heap) (locs1 : List Loc), va_P D cl (ws.set q0 (ad, .inl (cA, n, .inl (upd f j x)))) H1 → va_D A (ws.set q0 (ad, .inl (cA, n, .inl (upd f j x)))) → va_S A H0 H1 locs1 → W p l e R s m args below meth c H1 locs1 cells slots Q (F0 m (pc + 1) ls rest)) : W p l e R s m args below meth c H locs cells slots Q (F0 m pc ls (.int x :: .int (nI j) :: .ref ad :: rest)) := by
  refine va_zast hexec hb hK hP hD hS q0 t0 ha ht (vp_in_nI hj hn) hdg (fun H1 locs1 h1 h2 h3 => ?_)
  rw [nI_clamp (Nat.lt_trans hj hn), hnar] at h1 h2
  exact kk H1 locs1 h1 h2 h3
end FWA
/-- a Java boolean -/
def fw_b (x : Bool) : Int32 := if x then 1 else 0
theorem fw_b0 {x : Bool} : fw_b x = 0 ↔ x = false := by cases x <;> decide
theorem fw_b1 {x : Bool} : ¬ fw_b x = 0 ↔ x = true := by cases x <;> decide
theorem fw_bn (x : Bool) : narrow .boolean (.int (fw_b x)) = .int (fw_b x) := by cases x <;> decide
theorem fw_nle {a b : Nat} (h : nI a ≤ nI b) (ha : a < 2 ^ 31) (hb : b < 2 ^ 31) : a ≤ b := (nI_leI ha hb).mp h
theorem fw_nlt {a b : Nat} (h : ¬ nI a ≤ nI b) (ha : a < 2 ^ 31) (hb : b < 2 ^ 31) : b < a := Nat.not_le.mp (fun q => h ((nI_leI ha hb).mpr q))
def wd (a : Nat → Nat) (cB cI cZ : ClassId) (gv : Int32) (rn : Nat → Int32) (lv : Nat → Int32) (rc : Int32) (lk : Nat → Int32) (ss : Nat → Int32) (rw : Nat → Int32) (sg : Nat → Int32) (qc : Int32) (od : Nat → Int32) (aw : Nat → Int32) (tb : Nat → Int32) (md : Nat → Int32) (ql : Nat → Int32) (dr : Nat → Int32) : va_W := [(a 0, .inr (4, [.ref (a 1), .ref (a 2), .ref (a 3), .ref (a 4)])), (a 1, .inr (1, [.ref (a 5), .int gv])), (a 2, .inr (0, [.ref (a 6)])), (a 3, .inr (3, [.ref (a 7), .ref (a 8), .ref (a 9), .ref (a 10), .int rc])), (a 4, .inr (2, [.ref (a 11), .int qc, .ref (a 12), .ref (a 13), .ref (a 14), .ref (a 15), .ref (a 16)])), (a 5, .inl (cB, 4001, .inl rn)), (a 6, .inl (cB, 384, .inl lv)), (a 7, .inl (cI, 512, .inl lk)), (a 8, .inl (cI, 512, .inl ss)), (a 9, .inl (cI, 512, .inl rw)), (a 10, .inl (cI, 512, .inl sg)), (a 11, .inl (cI, 6, .inl od)), (a 12, .inl (cI, 6, .inl aw)), (a 13, .inl (cI, 6, .inl tb)), (a 14, .inl (cI, 6, .inl md)), (a 15, .inl (cI, 6, .inl ql)), (a 16, .inl (cZ, 6, .inl dr))]
def wm (a : Nat → Nat) (cB cI cZ : ClassId) (ag : Nat → Int32) (mg : Int32) (ow : Nat → Int32) (ru : Nat → Int32) (hd : Nat → Int32) (kd : Nat → Int32) (tb : Nat → Int32) (md : Nat → Int32) (lv : Nat → Int32) (dr : Nat → Int32) (nb : Nat → Int32) (bg : Nat → Int32) (tm : Int32) (lc : Int32) (lr : Nat → Int32) (lb : Nat → Int32) (lh : Nat → Int32) : va_W := [(a 0, .inr (5, [.ref (a 1), .int mg, .ref (a 2), .ref (a 3), .ref (a 4), .ref (a 5), .ref (a 6), .ref (a 7), .ref (a 8), .ref (a 9), .ref (a 10), .ref (a 11), .int tm, .int lc, .ref (a 12), .ref (a 13), .ref (a 14)])), (a 1, .inl (cI, 9, .inl ag)), (a 2, .inl (cI, 4001, .inl ow)), (a 3, .inl (cZ, 4001, .inl ru)), (a 4, .inl (cI, 432, .inl hd)), (a 5, .inl (cI, 6, .inl kd)), (a 6, .inl (cI, 6, .inl tb)), (a 7, .inl (cI, 6, .inl md)), (a 8, .inl (cI, 6, .inl lv)), (a 9, .inl (cZ, 6, .inl dr)), (a 10, .inl (cI, 6, .inl nb)), (a 11, .inl (cI, 6, .inl bg)), (a 12, .inl (cI, 600, .inl lr)), (a 13, .inl (cI, 600, .inl lb)), (a 14, .inl (cI, 600, .inl lh))]
theorem fw_gt {a b : Nat} (h : nI a < nI b) (ha : a < 2 ^ 31) (hb : b < 2 ^ 31) : a < b := (nI_ltI ha hb).mp h
theorem fw_ngt {a b : Nat} (h : ¬ nI a < nI b) (ha : a < 2 ^ 31) (hb : b < 2 ^ 31) : b ≤ a := Nat.not_lt.mp (fun q => h ((nI_ltI ha hb).mpr q))
