/-! Locks on rows: the class's sorted arrays and the reference's heap of them. -/
def sm_L (g r q : Nat) (rn ru lk ss rw sg lr lb lh : Nat → Int32) : Prop :=
  (∀ i, i < r → ∃ k : Nat, 1 ≤ k ∧ k ≤ g ∧ lk i = nI k ∧ ru k ≠ 0 ∧ ss i = rn k ∧ (sg i = 1 ∨ sg i = 2)) ∧
  (∀ i j, i < j → j < r → lk i ≤ lk j) ∧ (∀ i j, i < r → j < r → lk i = lk j → rw i = rw j → i = j) ∧
  (∀ i, i < q → ∃ k : Nat, 1 ≤ k ∧ k ≤ g ∧ lb i = nI k ∧ (lh i = 1 ∨ lh i = 2)) ∧ (∀ i j, i < q → j < q → lb i = lb j → lr i = lr j → i = j) ∧
  (∀ i, i < r → ∃ j, j < q ∧ lb j = lk i ∧ lr j = rw i ∧ lh j = sg i) ∧
  (∀ j, j < q → ru (lb j).toNatClampNeg ≠ 0 → ∃ i, i < r ∧ lk i = lb j ∧ rw i = lr j ∧ sg i = lh j)
/-- what stands of a row of cells, each kept or not, after i of them -/
def cq_inv {τ : Type} (A0 : Nat → τ) (keep : τ → Prop) (i kp : Nat) (A : Nat → τ) : Prop :=
  kp ≤ i ∧ (∀ j, i ≤ j → A j = A0 j) ∧ ∃ gm : Nat → Nat, (∀ j, j < kp → gm j < i ∧ keep (A0 (gm j)) ∧ A j = A0 (gm j)) ∧ (∀ a b, a < b → b < kp → gm a < gm b) ∧ (∀ a, a < i → keep (A0 a) → ∃ j, j < kp ∧ gm j = a)
theorem cq_0 {τ : Type} {A0 : Nat → τ} {keep : τ → Prop} : cq_inv A0 keep 0 0 A0 :=
  ⟨Nat.le_refl 0, fun _ _ => rfl, fun j => j, fun j h => absurd h (Nat.not_lt_zero _), fun a b _ h => absurd h (Nat.not_lt_zero _), fun a h => absurd h (Nat.not_lt_zero _)⟩
theorem cq_drop {τ : Type} {A0 A : Nat → τ} {keep : τ → Prop} {i kp : Nat} (h : cq_inv A0 keep i kp A) (hk : ¬ keep (A0 i)) : cq_inv A0 keep (i + 1) kp A := by
  obtain ⟨h1, h2, gm, h3, h4, h5⟩ := h
  refine ⟨by omega, fun j hj => h2 j (by omega), gm, fun j hj => ⟨by have := (h3 j hj).1; omega, (h3 j hj).2⟩, h4, fun a ha k => ?_⟩
  by_cases e : a = i
  · subst e; exact absurd k hk
  · exact h5 a (by omega) k
theorem cq_keep {τ : Type} {A0 A A' : Nat → τ} {keep : τ → Prop} {i kp : Nat} (h : cq_inv A0 keep i kp A) (hk : keep (A0 i)) (e1 : A' kp = A i) (e2 : ∀ j, j ≠ kp → A' j = A j) : cq_inv A0 keep (i + 1) (kp + 1) A' := by
  obtain ⟨h1, h2, gm, h3, h4, h5⟩ := h
  obtain ⟨f, fa, fb⟩ : ∃ f : Nat → Nat, f kp = i ∧ ∀ j, j ≠ kp → f j = gm j := ⟨fun j => if j = kp then i else gm j, by simp, fun j h => by simp [h]⟩
  refine ⟨by omega, fun j hj => by rw [e2 j (by omega)]; exact h2 j (by omega), f, fun j hj => ?_, fun a b hab hb => ?_, fun a ha k => ?_⟩
  · by_cases q : j = kp
    · subst q; rw [fa]; exact ⟨by omega, hk, by rw [e1]; exact h2 i (Nat.le_refl i)⟩
    · rw [fb j q, e2 j q]; obtain ⟨x1, x2, x3⟩ := h3 j (by omega); exact ⟨by omega, x2, x3⟩
  · rw [fb a (by omega)]
    by_cases q : b = kp
    · rw [q, fa]; exact (h3 a (by omega)).1
    · rw [fb b q]; exact h4 a b hab (by omega)
  · by_cases e : a = i
    · subst e; exact ⟨kp, by omega, fa⟩
    · obtain ⟨j, hj, ej⟩ := h5 a (by omega) k
      exact ⟨j, by omega, by rw [fb j (by omega)]; exact ej⟩
def cq_v4 (q : px_Q4) (i : Nat) : Int32 × Int32 × Int32 × Int32 := (q.1 i, q.2.1 i, q.2.2.1 i, q.2.2.2 i)
def cq_v3 (q : mx_Q3) (i : Nat) : Int32 × Int32 × Int32 := (q.1 i, q.2.1 i, q.2.2 i)
theorem cq_fw {sel : px_Q4 → Nat → Int32} {sv : Int32 × Int32 × Int32 × Int32 → Int32} (hs : ∀ q i, sel q i = sv (cq_v4 q i)) (x : Int32) (q : px_Q4) : ∀ i, cq_inv (cq_v4 q) (fun t => sv t ≠ x) i (fw_it (px_fwS sel x) i (0, q)).1 (cq_v4 (fw_it (px_fwS sel x) i (0, q)).2)
  | 0 => cq_0
  | i + 1 => by
    have ih := cq_fw hs x q i
    rw [fw_itS]
    generalize fw_it (px_fwS sel x) i (0, q) = st at ih ⊢
    have e : cq_v4 st.2 i = cq_v4 q i := ih.2.1 i (Nat.le_refl i)
    unfold px_fwS
    by_cases c : sel st.2 i = x
    · rw [if_pos c]
      refine cq_drop ih (fun k => k ?_)
      rw [hs, e] at c; exact c
    · rw [if_neg c]
      refine cq_keep ih (by rw [hs, e] at c; exact c) ?_ (fun j hj => ?_)
      · show cq_v4 (px_cp i st.1 st.2) st.1 = cq_v4 st.2 i
        unfold cq_v4 px_cp
        simp only [pk_us]
      · show cq_v4 (px_cp i st.1 st.2) j = cq_v4 st.2 j
        unfold cq_v4 px_cp
        simp only [pk_un hj]
theorem cq_sh (ru : Nat → Int32) (q : mx_Q3) : ∀ i, cq_inv (cq_v3 q) (fun t => ru t.2.1.toNatClampNeg ≠ 0) i (fw_it (mx_shS ru) i (0, q)).1 (cq_v3 (fw_it (mx_shS ru) i (0, q)).2)
  | 0 => cq_0
  | i + 1 => by
    have ih := cq_sh ru q i
    rw [fw_itS]
    generalize fw_it (mx_shS ru) i (0, q) = st at ih ⊢
    have e : cq_v3 st.2 i = cq_v3 q i := ih.2.1 i (Nat.le_refl i)
    have e2 : st.2.2.1 i = (cq_v3 q i).2.1 := by rw [← e]; rfl
    unfold mx_shS
    by_cases c : ru (st.2.2.1 i).toNatClampNeg = 0
    · rw [if_pos c]
      exact cq_drop ih (fun k => k (by rw [e2] at c; exact c))
    · rw [if_neg c]
      refine cq_keep ih (by rw [e2] at c; exact c) ?_ (fun j hj => ?_)
      · show cq_v3 (mx_cp i st.1 st.2) st.1 = cq_v3 st.2 i
        unfold cq_v3 mx_cp
        simp only [pk_us]
      · show cq_v3 (mx_cp i st.1 st.2) j = cq_v3 st.2 j
        unfold cq_v3 mx_cp
        simp only [pk_un hj]
theorem cq_cl (x : Int32) (q : mx_Q3) : ∀ i, cq_inv (cq_v3 q) (fun t => t.1 ≠ x) i (fw_it (mx_clS x) i (0, q)).1 (cq_v3 (fw_it (mx_clS x) i (0, q)).2)
  | 0 => cq_0
  | i + 1 => by
    have ih := cq_cl x q i
    rw [fw_itS]
    generalize fw_it (mx_clS x) i (0, q) = st at ih ⊢
    have e : cq_v3 st.2 i = cq_v3 q i := ih.2.1 i (Nat.le_refl i)
    have e2 : st.2.1 i = (cq_v3 q i).1 := by rw [← e]; rfl
    unfold mx_clS
    by_cases c : st.2.1 i = x
    · rw [if_pos c]
      exact cq_drop ih (fun k => k (by rw [e2] at c; exact c))
    · rw [if_neg c]
      refine cq_keep ih (by rw [e2] at c; exact c) ?_ (fun j hj => ?_)
      · show cq_v3 (mx_cp i st.1 st.2) st.1 = cq_v3 st.2 i
        unfold cq_v3 mx_cp
        simp only [pk_us]
      · show cq_v3 (mx_cp i st.1 st.2) j = cq_v3 st.2 j
        unfold cq_v3 mx_cp
        simp only [pk_un hj]
/-- the class's locks, some of them forgotten -/
theorem sm_fw {sel : px_Q4 → Nat → Int32} {sv : Int32 × Int32 × Int32 × Int32 → Int32} (hs : ∀ q i, sel q i = sv (cq_v4 q i)) (x : Int32) (lk ss rw sg : Nat → Int32) (r : Nat) :
    ∃ gm : Nat → Nat, (px_fw sel x r (lk, ss, rw, sg)).1 ≤ r ∧ (∀ j, j < (px_fw sel x r (lk, ss, rw, sg)).1 → gm j < r ∧ sv (lk (gm j), ss (gm j), rw (gm j), sg (gm j)) ≠ x ∧ (px_fw sel x r (lk, ss, rw, sg)).2.1 j = lk (gm j) ∧ (px_fw sel x r (lk, ss, rw, sg)).2.2.1 j = ss (gm j) ∧ (px_fw sel x r (lk, ss, rw, sg)).2.2.2.1 j = rw (gm j) ∧ (px_fw sel x r (lk, ss, rw, sg)).2.2.2.2 j = sg (gm j)) ∧
      (∀ a b, a < b → b < (px_fw sel x r (lk, ss, rw, sg)).1 → gm a < gm b) ∧ (∀ a, a < r → sv (lk a, ss a, rw a, sg a) ≠ x → ∃ j, j < (px_fw sel x r (lk, ss, rw, sg)).1 ∧ gm j = a) := by
  obtain ⟨h1, -, gm, h3, h4, h5⟩ := cq_fw hs x (lk, ss, rw, sg) r
  refine ⟨gm, h1, fun j hj => ?_, h4, h5⟩
  obtain ⟨a, b, c⟩ := h3 j hj
  have c1 := congrArg (fun t => t.1) c
  have c2 := congrArg (fun t => t.2.1) c
  have c3 := congrArg (fun t => t.2.2.1) c
  have c4 := congrArg (fun t => t.2.2.2) c
  exact ⟨a, b, c1, c2, c3, c4⟩
theorem sm_c3 {q n : Nat} {lr lb lh : Nat → Int32} {keep : Int32 × Int32 × Int32 → Prop} {c : Nat} {lr1 lb1 lh1 : Nat → Int32} (h : cq_inv (cq_v3 (lr, lb, lh)) keep q c (cq_v3 (lr1, lb1, lh1))) :
    ∃ gm : Nat → Nat, c ≤ q ∧ (∀ j, j < c → gm j < q ∧ keep (lr (gm j), lb (gm j), lh (gm j)) ∧ lr1 j = lr (gm j) ∧ lb1 j = lb (gm j) ∧ lh1 j = lh (gm j)) ∧ (∀ a b, a < b → b < c → gm a < gm b) ∧ (∀ a, a < q → keep (lr a, lb a, lh a) → ∃ j, j < c ∧ gm j = a) := by
  obtain ⟨h1, -, gm, h3, h4, h5⟩ := h
  refine ⟨gm, h1, fun j hj => ?_, h4, h5⟩
  obtain ⟨a, b, c⟩ := h3 j hj
  have c1 := congrArg (fun t => t.1) c
  have c2 := congrArg (fun t => t.2.1) c
  have c3 := congrArg (fun t => t.2.2) c
  exact ⟨a, b, c1, c2, c3⟩
theorem sm_inj {gm : Nat → Nat} {n : Nat} (h : ∀ a b, a < b → b < n → gm a < gm b) {i j : Nat} (hi : i < n) (hj : j < n) (e : gm i = gm j) : i = j := by
  rcases Nat.lt_trichotomy i j with c | c | c
  · have := h i j c hj; omega
  · exact c
  · have := h j i c hi; omega
theorem sm_cl {k : Nat} (h : k < 4001) : (nI k).toNatClampNeg = k := nI_clamp (by omega)
theorem sm_L_number {g r q : Nat} {rn ru lk ss rw sg lr lb lh : Nat → Int32} (hg : g < 4000) (h : sm_L g r q rn ru lk ss rw sg lr lb lh) (v : Int32) : sm_L (g + 1) r q (upd rn (g + 1) v) (upd ru (g + 1) 1) lk ss rw sg lr lb lh := by
  obtain ⟨h1, h2, h3, h4, h5, h6, h7⟩ := h
  refine ⟨fun i hi => ?_, h2, h3, fun i hi => ?_, h5, h6, fun j hj e => ?_⟩
  · obtain ⟨k, a, b, c, d, e, f⟩ := h1 i hi
    exact ⟨k, a, by omega, c, by rw [pk_un (by omega)]; exact d, by rw [pk_un (by omega)]; exact e, f⟩
  · obtain ⟨k, a, b, c⟩ := h4 i hi
    exact ⟨k, a, by omega, c⟩
  · obtain ⟨k, a, b, c, -⟩ := h4 j hj
    rw [c, sm_cl (by omega), pk_un (by omega)] at e
    exact h7 j hj (by rw [c, sm_cl (by omega)]; exact e)
theorem sm_L_over {g r q : Nat} {rn ru lk ss rw sg lr lb lh : Nat → Int32} (hg : g < 4000) (h : sm_L g r q rn ru lk ss rw sg lr lb lh) {k : Nat} (hk : k ≤ g) :
    sm_L g (px_fw (fun q => q.1) (nI k) r (lk, ss, rw, sg)).1 q (upd rn k (-1)) (upd ru k 0) (px_fw (fun q => q.1) (nI k) r (lk, ss, rw, sg)).2.1 (px_fw (fun q => q.1) (nI k) r (lk, ss, rw, sg)).2.2.1 (px_fw (fun q => q.1) (nI k) r (lk, ss, rw, sg)).2.2.2.1 (px_fw (fun q => q.1) (nI k) r (lk, ss, rw, sg)).2.2.2.2 lr lb lh := by
  obtain ⟨h1, h2, h3, h4, h5, h6, h7⟩ := h
  obtain ⟨gm, a1, a2, a3, a4⟩ := sm_fw (sel := fun q => q.1) (sv := fun t => t.1) (fun _ _ => rfl) (nI k) lk ss rw sg r
  generalize px_fw (fun q => q.1) (nI k) r (lk, ss, rw, sg) = w at a1 a2 a3 a4 ⊢
  refine ⟨fun i hi => ?_, fun i j hij hj => ?_, fun i j hi hj e1 e2 => ?_, h4, h5, fun i hi => ?_, fun j hj e => ?_⟩
  · obtain ⟨b1, b2, b3, b4, b5, b6⟩ := a2 i hi
    obtain ⟨k', c1, c2, c3, c4, c5, c6⟩ := h1 (gm i) b1
    have ne : k' ≠ k := fun z => b2 (by show lk (gm i) = nI k; rw [c3, z])
    rw [b3, b4, b6]
    exact ⟨k', c1, c2, c3, by rw [pk_un ne]; exact c4, by rw [pk_un ne]; exact c5, c6⟩
  · rw [(a2 i (by omega)).2.2.1, (a2 j hj).2.2.1]
    exact h2 _ _ (a3 i j hij hj) (a2 j hj).1
  · rw [(a2 i hi).2.2.1, (a2 j hj).2.2.1] at e1
    rw [(a2 i hi).2.2.2.2.1, (a2 j hj).2.2.2.2.1] at e2
    exact sm_inj a3 hi hj (h3 _ _ (a2 i hi).1 (a2 j hj).1 e1 e2)
  · obtain ⟨b1, b2, b3, b4, b5, b6⟩ := a2 i hi
    rw [b3, b5, b6]; exact h6 _ b1
  · obtain ⟨k', c1, c2, c3, -⟩ := h4 j hj
    rw [c3, sm_cl (by omega)] at e
    have ne : k' ≠ k := fun z => by rw [z, pk_us] at e; exact e rfl
    rw [pk_un ne] at e
    obtain ⟨i, d1, d2, d3, d4⟩ := h7 j hj (by rw [c3, sm_cl (by omega)]; exact e)
    obtain ⟨j', f1, f2⟩ := a4 i d1 (by show lk i ≠ nI k; rw [d2, c3]; exact fun z => ne (sm_nI (by omega) (by omega) z))
    obtain ⟨b1, b2, b3, b4, b5, b6⟩ := a2 j' f1
    exact ⟨j', f1, by rw [b3, f2]; exact d2, by rw [b5, f2]; exact d3, by rw [b6, f2]; exact d4⟩
theorem sm_L_model {g r q : Nat} {rn ru lk ss rw sg lr lb lh : Nat → Int32} (h : sm_L g r q rn ru lk ss rw sg lr lb lh) {c : Nat} {lr1 lb1 lh1 : Nat → Int32} (e : (c, lr1, lb1, lh1) = mx_sh ru q (lr, lb, lh)) (hg : g < 4000) :
    c ≤ q ∧ sm_L g r c rn ru lk ss rw sg lr1 lb1 lh1 ∧ ∀ j, j < c → ru (lb1 j).toNatClampNeg ≠ 0 := by
  obtain ⟨h1, h2, h3, h4, h5, h6, h7⟩ := h
  have hc := cq_sh ru (lr, lb, lh) q
  rw [show fw_it (mx_shS ru) q (0, lr, lb, lh) = (c, lr1, lb1, lh1) from e.symm] at hc
  obtain ⟨gm, a1, a2, a3, a4⟩ := sm_c3 (n := 0) hc
  refine ⟨a1, ⟨h1, h2, h3, fun i hi => ?_, fun i j hi hj e1 e2 => ?_, fun i hi => ?_, fun j hj e => ?_⟩, fun j hj => ?_⟩
  · obtain ⟨b1, b2, b3, b4, b5⟩ := a2 i hi
    rw [b4, b5]; exact h4 _ b1
  · rw [(a2 i hi).2.2.2.1, (a2 j hj).2.2.2.1] at e1
    rw [(a2 i hi).2.2.1, (a2 j hj).2.2.1] at e2
    exact sm_inj a3 hi hj (h5 _ _ (a2 i hi).1 (a2 j hj).1 e1 e2)
  · obtain ⟨j, d1, d2, d3, d4⟩ := h6 i hi
    obtain ⟨k, x1, x2, x3, x4, -⟩ := h1 i hi
    obtain ⟨j', f1, f2⟩ := a4 j d1 (by show ru (lb j).toNatClampNeg ≠ 0; rw [d2, x3, sm_cl (by omega)]; exact x4)
    obtain ⟨b1, b2, b3, b4, b5⟩ := a2 j' f1
    exact ⟨j', f1, by rw [b4, f2]; exact d2, by rw [b3, f2]; exact d3, by rw [b5, f2]; exact d4⟩
  · obtain ⟨b1, b2, b3, b4, b5⟩ := a2 j hj
    rw [b3, b4, b5]; rw [b4] at e; exact h7 _ b1 e
  · obtain ⟨b1, b2, b3, b4, b5⟩ := a2 j hj
    rw [b4]; exact b2
theorem sm_L_clear {g r q : Nat} {rn ru lk ss rw sg lr lb lh : Nat → Int32} (h : sm_L g r q rn ru lk ss rw sg lr lb lh) {x : Int32} {c : Nat} {lr1 lb1 lh1 : Nat → Int32} (e : (c, lr1, lb1, lh1) = mx_cl x q (lr, lb, lh)) :
    c ≤ q ∧ (px_fw (fun q => q.2.2.1) x r (lk, ss, rw, sg)).1 ≤ r ∧ sm_L g (px_fw (fun q => q.2.2.1) x r (lk, ss, rw, sg)).1 c rn ru (px_fw (fun q => q.2.2.1) x r (lk, ss, rw, sg)).2.1 (px_fw (fun q => q.2.2.1) x r (lk, ss, rw, sg)).2.2.1 (px_fw (fun q => q.2.2.1) x r (lk, ss, rw, sg)).2.2.2.1 (px_fw (fun q => q.2.2.1) x r (lk, ss, rw, sg)).2.2.2.2 lr1 lb1 lh1 := by
  obtain ⟨h1, h2, h3, h4, h5, h6, h7⟩ := h
  have hc := cq_cl x (lr, lb, lh) q
  rw [show fw_it (mx_clS x) q (0, lr, lb, lh) = (c, lr1, lb1, lh1) from e.symm] at hc
  obtain ⟨gn, m1, m2, m3, m4⟩ := sm_c3 (n := 0) hc
  obtain ⟨gm, a1, a2, a3, a4⟩ := sm_fw (sel := fun q => q.2.2.1) (sv := fun t => t.2.2.1) (fun _ _ => rfl) x lk ss rw sg r
  generalize px_fw (fun q => q.2.2.1) x r (lk, ss, rw, sg) = w at a1 a2 a3 a4 ⊢
  refine ⟨m1, a1, fun i hi => ?_, fun i j hij hj => ?_, fun i j hi hj e1 e2 => ?_, fun i hi => ?_, fun i j hi hj e1 e2 => ?_, fun i hi => ?_, fun j hj e => ?_⟩
  · obtain ⟨b1, b2, b3, b4, b5, b6⟩ := a2 i hi
    rw [b3, b4, b6]; exact h1 _ b1
  · rw [(a2 i (by omega)).2.2.1, (a2 j hj).2.2.1]
    exact h2 _ _ (a3 i j hij hj) (a2 j hj).1
  · rw [(a2 i hi).2.2.1, (a2 j hj).2.2.1] at e1
    rw [(a2 i hi).2.2.2.2.1, (a2 j hj).2.2.2.2.1] at e2
    exact sm_inj a3 hi hj (h3 _ _ (a2 i hi).1 (a2 j hj).1 e1 e2)
  · obtain ⟨b1, b2, b3, b4, b5⟩ := m2 i hi
    rw [b4, b5]; exact h4 _ b1
  · rw [(m2 i hi).2.2.2.1, (m2 j hj).2.2.2.1] at e1
    rw [(m2 i hi).2.2.1, (m2 j hj).2.2.1] at e2
    exact sm_inj m3 hi hj (h5 _ _ (m2 i hi).1 (m2 j hj).1 e1 e2)
  · obtain ⟨b1, b2, b3, b4, b5, b6⟩ := a2 i hi
    obtain ⟨j, d1, d2, d3, d4⟩ := h6 _ b1
    obtain ⟨j', f1, f2⟩ := m4 j d1 (by show lr j ≠ x; rw [d3]; exact b2)
    obtain ⟨c1, c2, c3, c4, c5⟩ := m2 j' f1
    exact ⟨j', f1, by rw [c4, f2, b3]; exact d2, by rw [c3, f2, b5]; exact d3, by rw [c5, f2, b6]; exact d4⟩
  · obtain ⟨c1, c2, c3, c4, c5⟩ := m2 j hj
    rw [c4] at e
    obtain ⟨i, d1, d2, d3, d4⟩ := h7 _ c1 e
    obtain ⟨i', f1, f2⟩ := a4 i d1 (by show rw i ≠ x; rw [d3]; exact c2)
    obtain ⟨b1, b2, b3, b4, b5, b6⟩ := a2 i' f1
    exact ⟨i', f1, by rw [b3, f2, c4]; exact d2, by rw [b5, f2, c3]; exact d3, by rw [b6, f2, c5]; exact d4⟩
theorem sm_fw_le {sel : px_Q4 → Nat → Int32} {sv : Int32 × Int32 × Int32 × Int32 → Int32} (hs : ∀ q i, sel q i = sv (cq_v4 q i)) (x : Int32) (q : px_Q4) (r : Nat) : (px_fw sel x r q).1 ≤ r := (cq_fw hs x q r).1
