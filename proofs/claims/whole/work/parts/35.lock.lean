/-! The reference's walk over the locks, and the class's answers. -/
def sm_C (ow lr lb lh : Nat → Int32) (k : Nat) (x2 x3 : Int32) (j : Nat) : Prop := lr j = x2 ∧ ¬ ow (lb j).toNatClampNeg = ow k ∧ (x3 = 2 ∨ lh j = 2)
theorem sm_lkW {ow lr lb lh : Nat → Int32} {k c : Nat} {x2 x3 : Int32} (hp : ∀ j, j < c → ∃ z : Nat, 1 ≤ z ∧ z < 4001 ∧ lb j = nI z) : ∀ i, i ≤ c →
    ((fw_it (mx_lkW ow lr lb lh k x2 x3) i (0, false, -1)).2.1 = true ↔ ∃ j, j < i ∧ lr j = x2 ∧ ow (lb j).toNatClampNeg = ow k ∧ ¬ lh j < x3) ∧
    (((fw_it (mx_lkW ow lr lb lh k x2 x3) i (0, false, -1)).1 = 0 ∧ ∀ j, j < i → ¬ sm_C ow lr lb lh k x2 x3 j) ∨ (∃ j, j < i ∧ sm_C ow lr lb lh k x2 x3 j ∧ (fw_it (mx_lkW ow lr lb lh k x2 x3) i (0, false, -1)).1 = lb j ∧ ∀ j', j' < i → sm_C ow lr lb lh k x2 x3 j' → lb j ≤ lb j')) ∧
    (((fw_it (mx_lkW ow lr lb lh k x2 x3) i (0, false, -1)).2.2 = -1 ∧ ∀ j, j < i → ¬ (lr j = x2 ∧ lb j = nI k)) ∨ (∃ j, j < i ∧ (fw_it (mx_lkW ow lr lb lh k x2 x3) i (0, false, -1)).2.2 = nI j ∧ lr j = x2 ∧ lb j = nI k))
  | 0, _ => ⟨⟨fun h => (by cases h), fun ⟨j, h, _⟩ => absurd h (Nat.not_lt_zero _)⟩, Or.inl ⟨rfl, fun j h => absurd h (Nat.not_lt_zero _)⟩, Or.inl ⟨rfl, fun j h => absurd h (Nat.not_lt_zero _)⟩⟩
  | i + 1, hi => by
    obtain ⟨ih1, ih2, ih3⟩ := sm_lkW (ow := ow) (lr := lr) (lb := lb) (lh := lh) (k := k) (x2 := x2) (x3 := x3) hp i (by omega)
    rw [fw_itS]
    generalize fw_it (mx_lkW ow lr lb lh k x2 x3) i (0, false, -1) = st at ih1 ih2 ih3 ⊢
    obtain ⟨z, z1, z2, ez⟩ := hp i (by omega)
    have nz : ∀ j, j < c → ¬ lb j = 0 := fun j hj e => by
      obtain ⟨z, z1, z2, ez⟩ := hp j hj
      rw [ez] at e; exact nI_ne0 (by omega) (by omega) e
    unfold mx_lkW
    by_cases hr : lr i = x2
    · rw [if_pos hr]
      refine ⟨?_, ?_, ?_⟩
      · show (st.2.1 || (decide (ow (lb i).toNatClampNeg = ow k) && !decide (lh i < x3))) = true ↔ _
        rw [Bool.or_eq_true, ih1, Bool.and_eq_true, decide_eq_true_eq, Bool.not_eq_true', decide_eq_false_iff_not]
        constructor
        · rintro (⟨j, a, b⟩ | ⟨a, b⟩)
          · exact ⟨j, by omega, b⟩
          · exact ⟨i, by omega, hr, a, b⟩
        · rintro ⟨j, a, b1, b2, b3⟩
          by_cases e : j = i
          · subst e; exact Or.inr ⟨b2, b3⟩
          · exact Or.inl ⟨j, by omega, b1, b2, b3⟩
      · show ((if (!decide (ow (lb i).toNatClampNeg = ow k) && (decide (x3 = 2) || decide (lh i = 2))) && (decide (st.1 = 0) || !decide (st.1 ≤ lb i)) then lb i else st.1) = 0 ∧ _) ∨ ∃ j, j < i + 1 ∧ _ ∧ (if (!decide (ow (lb i).toNatClampNeg = ow k) && (decide (x3 = 2) || decide (lh i = 2))) && (decide (st.1 = 0) || !decide (st.1 ≤ lb i)) then lb i else st.1) = lb j ∧ _
        have hC : (!decide (ow (lb i).toNatClampNeg = ow k) && (decide (x3 = 2) || decide (lh i = 2))) = true ↔ sm_C ow lr lb lh k x2 x3 i := by
          simp only [Bool.and_eq_true, Bool.or_eq_true, Bool.not_eq_true', decide_eq_false_iff_not, decide_eq_true_eq, sm_C]
          exact ⟨fun h => ⟨hr, h.1, h.2⟩, fun h => ⟨h.2.1, h.2.2⟩⟩
        by_cases cc : sm_C ow lr lb lh k x2 x3 i
        · rw [hC.mpr cc, Bool.true_and]
          rcases ih2 with ⟨e, hn⟩ | ⟨j, hj, cj, ej, mj⟩
          · rw [decide_eq_true e, Bool.true_or, if_pos rfl]
            refine Or.inr ⟨i, by omega, cc, rfl, fun j' hj' c' => ?_⟩
            by_cases q : j' = i
            · subst q; exact Int32.le_refl _
            · exact absurd c' (hn j' (by omega))
          · rw [ej, decide_eq_false (nz j (by omega)), Bool.false_or]
            by_cases d : lb j ≤ lb i
            · rw [decide_eq_true d, Bool.not_true, if_neg (by decide)]
              refine Or.inr ⟨j, by omega, cj, rfl, fun j' hj' c' => ?_⟩
              by_cases q : j' = i
              · subst q; exact d
              · exact mj j' (by omega) c'
            · rw [decide_eq_false d, Bool.not_false, if_pos rfl]
              refine Or.inr ⟨i, by omega, cc, rfl, fun j' hj' c' => ?_⟩
              by_cases q : j' = i
              · subst q; exact Int32.le_refl _
              · exact Int32.le_trans (Int32.le_of_lt (Int32.not_le.mp d)) (mj j' (by omega) c')
        · have hf : (!decide (ow (lb i).toNatClampNeg = ow k) && (decide (x3 = 2) || decide (lh i = 2))) = false := by
            cases e : (!decide (ow (lb i).toNatClampNeg = ow k) && (decide (x3 = 2) || decide (lh i = 2))) with
            | false => rfl
            | true => exact absurd (hC.mp e) cc
          rw [hf, Bool.false_and, if_neg (by decide)]
          rcases ih2 with ⟨e, hn⟩ | ⟨j, hj, cj, ej, mj⟩
          · refine Or.inl ⟨e, fun j hj => ?_⟩
            by_cases q : j = i
            · subst q; exact cc
            · exact hn j (by omega)
          · refine Or.inr ⟨j, by omega, cj, ej, fun j' hj' c' => ?_⟩
            by_cases q : j' = i
            · subst q; exact absurd c' cc
            · exact mj j' (by omega) c'
      · show ((if lb i = nI k then nI i else st.2.2) = -1 ∧ _) ∨ ∃ j, j < i + 1 ∧ (if lb i = nI k then nI i else st.2.2) = nI j ∧ _
        by_cases d : lb i = nI k
        · rw [if_pos d]; exact Or.inr ⟨i, by omega, rfl, hr, d⟩
        · rw [if_neg d]
          rcases ih3 with ⟨e, hn⟩ | ⟨j, hj, ej, e2⟩
          · refine Or.inl ⟨e, fun j hj z => ?_⟩
            by_cases q : j = i
            · subst q; exact d z.2
            · exact hn j (by omega) z
          · exact Or.inr ⟨j, by omega, ej, e2⟩
    · rw [if_neg hr]
      refine ⟨?_, ?_, ?_⟩
      · rw [ih1]
        constructor
        · rintro ⟨j, a, b⟩; exact ⟨j, by omega, b⟩
        · rintro ⟨j, a, b⟩
          by_cases e : j = i
          · subst e; exact absurd b.1 hr
          · exact ⟨j, by omega, b⟩
      · rcases ih2 with ⟨e, hn⟩ | ⟨j, hj, cj, ej, mj⟩
        · refine Or.inl ⟨e, fun j hj z => ?_⟩
          by_cases q : j = i
          · subst q; exact hr z.1
          · exact hn j (by omega) z
        · refine Or.inr ⟨j, by omega, cj, ej, fun j' hj' c' => ?_⟩
          by_cases q : j' = i
          · subst q; exact absurd c'.1 hr
          · exact mj j' (by omega) c'
      · rcases ih3 with ⟨e, hn⟩ | ⟨j, hj, ej, e2⟩
        · refine Or.inl ⟨e, fun j hj z => ?_⟩
          by_cases q : j = i
          · subst q; exact hr z.1
          · exact hn j (by omega) z
        · exact Or.inr ⟨j, by omega, ej, e2⟩
/-- the class's answers to lock, by the reference's walk -/
theorem sm_lock {g r c : Nat} {rn ow ru lk ss rw sg lr lb lh : Nat → Int32} (hN : sm_N g rn ow ru) (hL : sm_L g r c rn ru lk ss rw sg lr lb lh) (hrun : ∀ j, j < c → ru (lb j).toNatClampNeg ≠ 0) {k : Nat} (hk1 : 1 ≤ k) (hk2 : k ≤ g) (hk : ¬ ru k = 0) {x2 x3 lst mn : Int32} {bb : Bool} (hw : (lst, bb, mn) = fw_it (mx_lkW ow lr lb lh k x2 x3) c (0, false, -1)) :
    px_any (px_sfP ss rw sg (rn k) x2 x3) r = bb ∧ ((px_lc r lk ss rw sg (rn k) x2 x3 = -1 ∧ ¬ 0 < lst) ∨ (px_lc r lk ss rw sg (rn k) x2 x3 = lst ∧ 0 < lst ∧ ¬ px_lc r lk ss rw sg (rn k) x2 x3 = -1)) ∧
    ((mn = -1 ∧ ∀ i, i < r → ¬ (lk i = nI k ∧ rw i = x2)) ∨ (∃ j i, j < c ∧ i < r ∧ mn = nI j ∧ lr j = x2 ∧ lb j = nI k ∧ lk i = nI k ∧ rw i = x2)) := by
  obtain ⟨hg, hN1, hN2⟩ := hN
  obtain ⟨h1, h2, h3, h4, h5, h6, h7⟩ := hL
  have run : ∀ z, 1 ≤ z → z ≤ g → ru z ≠ 0 → rn z = ow z := fun z z1 z2 z3 => by
    rcases hN1 z z1 z2 with a | a
    · exact absurd a.1 z3
    · exact a.2
  have hrk : rn k = ow k := run k hk1 hk2 hk
  obtain ⟨w1, w2, w3⟩ := sm_lkW (ow := ow) (lr := lr) (lb := lb) (lh := lh) (k := k) (x2 := x2) (x3 := x3) (c := c) (fun j hj => by obtain ⟨z, a, b, e, -⟩ := h4 j hj; exact ⟨z, a, by omega, e⟩) c (Nat.le_refl c)
  rw [← hw] at w1 w2 w3
  -- entries of the one are entries of the other
  have own : ∀ i, i < r → ss i = ow (lk i).toNatClampNeg := fun i hi => by
    obtain ⟨z, a, b, e, f, s1, -⟩ := h1 i hi
    rw [s1, run z a b f, e, sm_cl (by omega)]
  refine ⟨?_, ?_, ?_⟩
  · rw [Bool.eq_iff_iff, px_any_iff]
    have w1 : bb = true ↔ ∃ j, j < c ∧ lr j = x2 ∧ ow (lb j).toNatClampNeg = ow k ∧ ¬ lh j < x3 := w1
    rw [w1]
    constructor
    · rintro ⟨i, hi, e⟩
      simp only [px_sfP, Bool.and_eq_true, decide_eq_true_eq, Bool.not_eq_true', decide_eq_false_iff_not] at e
      obtain ⟨⟨e1, e2⟩, e3⟩ := e
      obtain ⟨j, d1, d2, d3, d4⟩ := h6 i hi
      exact ⟨j, d1, by rw [d3]; exact e1, by rw [d2, ← own i hi, e2, hrk], by rw [d4]; exact e3⟩
    · rintro ⟨j, hj, e1, e2, e3⟩
      obtain ⟨i, d1, d2, d3, d4⟩ := h7 j hj (hrun j hj)
      refine ⟨i, d1, ?_⟩
      simp only [px_sfP, Bool.and_eq_true, decide_eq_true_eq, Bool.not_eq_true', decide_eq_false_iff_not]
      exact ⟨⟨by rw [d3]; exact e1, by rw [own i d1, d2, e2, hrk]⟩, by rw [d4]; exact e3⟩
  · have lcP : ∀ i, i < r → (px_lcP ss rw sg (rn k) x2 x3 i = true ↔ rw i = x2 ∧ ¬ ow (lk i).toNatClampNeg = ow k ∧ (x3 = 2 ∨ sg i = 2)) := fun i hi => by
      simp only [px_lcP, Bool.and_eq_true, Bool.or_eq_true, decide_eq_true_eq, Bool.not_eq_true', decide_eq_false_iff_not, own i hi, hrk]
      exact ⟨fun h => ⟨h.1.1, h.1.2, h.2⟩, fun h => ⟨⟨h.1, h.2.1⟩, h.2.2⟩⟩
    have m2c : ∀ j, j < c → sm_C ow lr lb lh k x2 x3 j → ∃ i, i < r ∧ lk i = lb j ∧ px_lcP ss rw sg (rn k) x2 x3 i = true := fun j hj cj => by
      obtain ⟨i, d1, d2, d3, d4⟩ := h7 j hj (hrun j hj)
      exact ⟨i, d1, d2, (lcP i d1).mpr ⟨by rw [d3]; exact cj.1, by rw [d2]; exact cj.2.1, by rw [d4]; exact cj.2.2⟩⟩
    have c2m : ∀ i, i < r → px_lcP ss rw sg (rn k) x2 x3 i = true → ∃ j, j < c ∧ lb j = lk i ∧ sm_C ow lr lb lh k x2 x3 j := fun i hi ci => by
      obtain ⟨e1, e2, e3⟩ := (lcP i hi).mp ci
      obtain ⟨j, d1, d2, d3, d4⟩ := h6 i hi
      exact ⟨j, d1, d2, by rw [sm_C, d3, d2, d4]; exact ⟨e1, e2, e3⟩⟩
    unfold px_lc
    cases e : px_fst (px_lcP ss rw sg (rn k) x2 x3) r with
    | none =>
      refine Or.inl ⟨rfl, ?_⟩
      rcases w2 with ⟨w, -⟩ | ⟨j, hj, cj, -⟩
      · have w : lst = 0 := w
        rw [w]; decide
      · obtain ⟨i, hi, -, ci⟩ := m2c j hj cj
        rw [px_fst_no e i hi] at ci; exact absurd ci (by decide)
    | some i =>
      have hi := px_fst_lt e
      have ci := px_fst_sat e
      obtain ⟨j, hj, ej, cj⟩ := c2m i hi ci
      rcases w2 with ⟨-, w⟩ | ⟨j2, hj2, cj2, ej2, mj2⟩
      · exact absurd cj (w j hj)
      · have ej2 : lst = lb j2 := ej2
        obtain ⟨i2, hi2, ei2, ci2⟩ := m2c j2 hj2 cj2
        have ii : i ≤ i2 := by
          rcases Nat.lt_or_ge i2 i with z | z
          · rw [px_fst_min e i2 z] at ci2; exact absurd ci2 (by decide)
          · exact z
        have le1 : lk i ≤ lst := by
          rw [ej2, ← ei2]
          by_cases q : i = i2
          · rw [q]; exact Int32.le_refl _
          · exact h2 i i2 (by omega) hi2
        have le2 : lst ≤ lk i := by rw [ej2, ← ej]; exact mj2 j hj cj
        have eq : lk i = lst := Int32.le_antisymm le1 le2
        obtain ⟨z, a, b, ez, -⟩ := h1 i hi
        refine Or.inr ⟨eq, ?_, ?_⟩
        · rw [← eq, ez]; exact nI_lt (a := 0) (by omega) (by omega)
        · show ¬ lk i = -1
          rw [ez]
          intro q
          have : nI z < 0 := by rw [q]; decide
          exact nI_pos (by omega) this
  · rcases w3 with ⟨w, hno⟩ | ⟨j, hj, ej, a, b⟩
    · refine Or.inl ⟨w, fun i hi z => ?_⟩
      obtain ⟨j, d1, d2, d3, d4⟩ := h6 i hi
      exact hno j d1 ⟨by rw [d3]; exact z.2, by rw [d2]; exact z.1⟩
    · obtain ⟨i, d1, d2, d3, d4⟩ := h7 j hj (hrun j hj)
      exact Or.inr ⟨j, i, hj, d1, ej, a, b, by rw [d2]; exact b, by rw [d3]; exact a⟩
/-- the strength of a lock that both have is changed -/
theorem sm_L_set {g r c : Nat} {rn ru lk ss rw sg lr lb lh : Nat → Int32} (hL : sm_L g r c rn ru lk ss rw sg lr lb lh) {i j : Nat} (hi : i < r) (hj : j < c) (e1 : lk i = lb j) (e2 : rw i = lr j) {x3 : Int32} (h3' : x3 = 1 ∨ x3 = 2) : sm_L g r c rn ru lk ss rw (upd sg i x3) lr lb (upd lh j x3) := by
  obtain ⟨h1, h2, h3, h4, h5, h6, h7⟩ := hL
  refine ⟨fun a ha => ?_, h2, h3, fun a ha => ?_, h5, fun a ha => ?_, fun b hb e => ?_⟩
  · obtain ⟨k, x1, x2, x3', x4, x5, x6⟩ := h1 a ha
    refine ⟨k, x1, x2, x3', x4, x5, ?_⟩
    by_cases q : a = i
    · subst q; rw [pk_us]; exact h3'
    · rw [pk_un q]; exact x6
  · obtain ⟨k, x1, x2, x3', x4⟩ := h4 a ha
    refine ⟨k, x1, x2, x3', ?_⟩
    by_cases q : a = j
    · subst q; rw [pk_us]; exact h3'
    · rw [pk_un q]; exact x4
  · by_cases q : a = i
    · subst q; exact ⟨j, hj, e1.symm, e2.symm, by rw [pk_us, pk_us]⟩
    · obtain ⟨b, d1, d2, d3, d4⟩ := h6 a ha
      refine ⟨b, d1, d2, d3, ?_⟩
      have : b ≠ j := fun z => q (h3 a i ha hi (by rw [← d2, z, e1]) (by rw [← d3, z, e2]))
      rw [pk_un this, pk_un q]; exact d4
  · by_cases q : b = j
    · subst q; exact ⟨i, hi, e1, e2, by rw [pk_us, pk_us]⟩
    · obtain ⟨a, d1, d2, d3, d4⟩ := h7 b hb e
      refine ⟨a, d1, d2, d3, ?_⟩
      have : a ≠ i := fun z => q (h5 b j hb hj (by rw [← d2, z, e1]) (by rw [← d3, z, e2]))
      rw [pk_un this, pk_un q]; exact d4
theorem px_sh_eq (n : Nat) (q : px_Q4) : ∀ t, t ≤ n → ∀ i, cq_v4 (fw_it (px_shS n) t q) i = if n - t < i ∧ i ≤ n then cq_v4 q (i - 1) else cq_v4 q i
  | 0, _, i => by rw [fw_it0, if_neg (by omega)]
  | t + 1, ht, i => by
    have ih := px_sh_eq n q t (by omega)
    rw [fw_itS]
    generalize fw_it (px_shS n) t q = w at ih ⊢
    unfold px_shS
    by_cases e : i = n - t
    · subst e
      have : cq_v4 (px_cp (n - t - 1) (n - t) w) (n - t) = cq_v4 w (n - t - 1) := by
        unfold cq_v4 px_cp
        simp only [pk_us]
      rw [this, ih, if_neg (by omega), if_pos (by omega)]
    · have : cq_v4 (px_cp (n - t - 1) (n - t) w) i = cq_v4 w i := by
        unfold cq_v4 px_cp
        simp only [pk_un e]
      rw [this, ih]
      by_cases d : n - t < i ∧ i ≤ n
      · rw [if_pos d, if_pos (by omega)]
      · rw [if_neg d, if_neg (by omega)]
/-- a lock that neither has is put in -/
theorem sm_L_put {g r c : Nat} {rn ru lk ss rw sg lr lb lh : Nat → Int32} (hL : sm_L g r c rn ru lk ss rw sg lr lb lh) (hg : g < 4000) {k p : Nat} {x2 x3 : Int32} (hk1 : 1 ≤ k) (hk2 : k ≤ g) (hk : ¬ ru k = 0) (h3' : x3 = 1 ∨ x3 = 2) (hp : p ≤ r) (hpl : px_placeAt r lk rw (nI k) x2 p) (hno : ∀ j, j < c → ¬ (lr j = x2 ∧ lb j = nI k)) :
    sm_L g (r + 1) (c + 1) rn ru (px_put p (nI k) (rn k) x2 x3 (px_sh r p (lk, ss, rw, sg))).1 (px_put p (nI k) (rn k) x2 x3 (px_sh r p (lk, ss, rw, sg))).2.1 (px_put p (nI k) (rn k) x2 x3 (px_sh r p (lk, ss, rw, sg))).2.2.1 (px_put p (nI k) (rn k) x2 x3 (px_sh r p (lk, ss, rw, sg))).2.2.2 (upd lr c x2) (upd lb c (nI k)) (upd lh c x3) := by
  obtain ⟨h1, h2, h3, h4, h5, h6, h7⟩ := hL
  have sh := px_sh_eq r (lk, ss, rw, sg) (r - p) (by omega)
  have vp : cq_v4 (px_put p (nI k) (rn k) x2 x3 (px_sh r p (lk, ss, rw, sg))) p = (nI k, rn k, x2, x3) := by
    unfold cq_v4 px_put
    simp only [pk_us]
  have vo : ∀ i, i ≠ p → cq_v4 (px_put p (nI k) (rn k) x2 x3 (px_sh r p (lk, ss, rw, sg))) i = cq_v4 (px_sh r p (lk, ss, rw, sg)) i := fun i h => by
    unfold cq_v4 px_put
    simp only [pk_un h]
  have va : ∀ i, i < p → cq_v4 (px_put p (nI k) (rn k) x2 x3 (px_sh r p (lk, ss, rw, sg))) i = (lk i, ss i, rw i, sg i) := fun i h => by
    rw [vo i (by omega)]
    show cq_v4 (fw_it (px_shS r) (r - p) (lk, ss, rw, sg)) i = _
    rw [sh, if_neg (by omega)]; rfl
  have vb : ∀ i, p < i → i ≤ r → cq_v4 (px_put p (nI k) (rn k) x2 x3 (px_sh r p (lk, ss, rw, sg))) i = (lk (i - 1), ss (i - 1), rw (i - 1), sg (i - 1)) := fun i h h' => by
    rw [vo i (by omega)]
    show cq_v4 (fw_it (px_shS r) (r - p) (lk, ss, rw, sg)) i = _
    rw [sh, if_pos (by omega)]; rfl
  generalize px_put p (nI k) (rn k) x2 x3 (px_sh r p (lk, ss, rw, sg)) = w at vp va vb ⊢
  have p1 : w.1 p = nI k := congrArg (fun t => t.1) vp
  have p2 : w.2.1 p = rn k := congrArg (fun t => t.2.1) vp
  have p3 : w.2.2.1 p = x2 := congrArg (fun t => t.2.2.1) vp
  have p4 : w.2.2.2 p = x3 := congrArg (fun t => t.2.2.2) vp
  -- every other place shows an old one
  have old : ∀ i, i < r + 1 → i ≠ p → ∃ o, o < r ∧ (i < p → o = i) ∧ (p < i → o + 1 = i) ∧ w.1 i = lk o ∧ w.2.1 i = ss o ∧ w.2.2.1 i = rw o ∧ w.2.2.2 i = sg o := fun i hi hne => by
    rcases Nat.lt_or_ge i p with z | z
    · have v := va i z
      exact ⟨i, by omega, fun _ => rfl, fun h => by omega, congrArg (fun t => t.1) v, congrArg (fun t => t.2.1) v, congrArg (fun t => t.2.2.1) v, congrArg (fun t => t.2.2.2) v⟩
    · have v := vb i (by omega) (by omega)
      exact ⟨i - 1, by omega, fun h => by omega, fun h => by omega, congrArg (fun t => t.1) v, congrArg (fun t => t.2.1) v, congrArg (fun t => t.2.2.1) v, congrArg (fun t => t.2.2.2) v⟩
  have back : ∀ o, o < r → ∃ i, i < r + 1 ∧ i ≠ p ∧ w.1 i = lk o ∧ w.2.2.1 i = rw o ∧ w.2.2.2 i = sg o := fun o ho => by
    rcases Nat.lt_or_ge o p with z | z
    · have v := va o z
      exact ⟨o, by omega, by omega, congrArg (fun t => t.1) v, congrArg (fun t => t.2.2.1) v, congrArg (fun t => t.2.2.2) v⟩
    · have v := vb (o + 1) (by omega) (by omega)
      exact ⟨o + 1, by omega, by omega, congrArg (fun t => t.1) v, congrArg (fun t => t.2.2.1) v, congrArg (fun t => t.2.2.2) v⟩
  -- the new one stands between
  have lo : ∀ o, o < r → o < p → lk o ≤ nI k := fun o ho z => Int32.not_lt.mp (hpl.1 o z).1
  have hi : ∀ o, o < r → ¬ o < p → nI k < lk o := fun o ho z => by
    rcases hpl.2 with q | q
    · omega
    · by_cases e : o = p
      · rw [e]; exact q
      · exact Int32.lt_of_lt_of_le q (h2 p o (by omega) ho)
  have fresh : ∀ o, o < r → ¬ (lk o = nI k ∧ rw o = x2) := fun o ho z => by
    by_cases q : o < p
    · exact (hpl.1 o q).2 z
    · have := hi o ho q
      rw [z.1] at this; exact Int32.lt_irrefl this
  refine ⟨fun i hi' => ?_, fun i j hij hj => ?_, fun i j hi' hj e1 e2 => ?_, fun i hi' => ?_, fun i j hi' hj e1 e2 => ?_, fun i hi' => ?_, fun j hj e => ?_⟩
  · by_cases q : i = p
    · subst q; rw [p1, p2, p4]; exact ⟨k, hk1, hk2, rfl, hk, rfl, h3'⟩
    · obtain ⟨o, o1, -, -, o2, o3, o4, o5⟩ := old i hi' q
      rw [o2, o3, o5]; exact h1 o o1
  · by_cases q : i = p
    · subst q
      obtain ⟨o, o1, -, o0, o2, -⟩ := old j hj (by omega)
      rw [p1, o2]; exact Int32.le_of_lt (hi o o1 (by have := o0 hij; omega))
    · obtain ⟨a, a1, aa, ab, a2, -⟩ := old i (by omega) q
      by_cases q2 : j = p
      · subst q2
        rw [p1, a2]; exact lo a a1 (by have := aa hij; omega)
      · obtain ⟨b, b1, ba, bb, b2, -⟩ := old j hj q2
        rw [a2, b2]
        have : a < b := by
          rcases Nat.lt_or_ge i p with z | z
          · have := aa z
            rcases Nat.lt_or_ge j p with z2 | z2
            · have := ba z2; omega
            · have := bb (by omega); omega
          · have := ab (by omega)
            have := bb (by omega); omega
        exact h2 a b this b1
  · by_cases q : i = p
    · by_cases q2 : j = p
      · omega
      · obtain ⟨b, b1, -, -, b2, -, b4, -⟩ := old j hj q2
        rw [q, p1, b2] at e1; rw [q, p3, b4] at e2
        exact absurd ⟨e1.symm, e2.symm⟩ (fresh b b1)
    · obtain ⟨a, a1, aa, ab, a2, -, a4, -⟩ := old i hi' q
      by_cases q2 : j = p
      · rw [q2, p1, a2] at e1; rw [q2, p3, a4] at e2
        exact absurd ⟨e1, e2⟩ (fresh a a1)
      · obtain ⟨b, b1, ba, bb, b2, -, b4, -⟩ := old j hj q2
        rw [a2, b2] at e1; rw [a4, b4] at e2
        have := h3 a b a1 b1 e1 e2
        rcases Nat.lt_or_ge i p with z | z
        · have := aa z
          rcases Nat.lt_or_ge j p with z2 | z2
          · have := ba z2; omega
          · have := bb (by omega); omega
        · have := ab (by omega)
          rcases Nat.lt_or_ge j p with z2 | z2
          · have := ba z2; omega
          · have := bb (by omega); omega
  · by_cases q : i = c
    · subst q; rw [pk_us, pk_us]; exact ⟨k, hk1, hk2, rfl, h3'⟩
    · rw [pk_un q, pk_un q]; exact h4 i (by omega)
  · by_cases q : i = c <;> by_cases q2 : j = c
    · omega
    · rw [q, pk_us, pk_un q2] at e1 e2; exact absurd ⟨e2.symm, e1.symm⟩ (hno j (by omega))
    · rw [q2, pk_us, pk_un q] at e1 e2; exact absurd ⟨e2, e1⟩ (hno i (by omega))
    · rw [pk_un q, pk_un q2] at e1 e2; exact h5 i j (by omega) (by omega) e1 e2
  · by_cases q : i = p
    · subst q; exact ⟨c, by omega, by rw [pk_us, p1], by rw [pk_us, p3], by rw [pk_us, p4]⟩
    · obtain ⟨a, a1, -, -, a2, -, a4, a5⟩ := old i hi' q
      obtain ⟨j, d1, d2, d3, d4⟩ := h6 a a1
      have : j ≠ c := by omega
      exact ⟨j, by omega, by rw [pk_un this, a2]; exact d2, by rw [pk_un this, a4]; exact d3, by rw [pk_un this, a5]; exact d4⟩
  · by_cases q : j = c
    · subst q; exact ⟨p, by omega, by rw [pk_us, p1], by rw [pk_us, p3], by rw [pk_us, p4]⟩
    · rw [pk_un q] at e
      obtain ⟨a, d1, d2, d3, d4⟩ := h7 j (by omega) e
      obtain ⟨i, b1, b0, b2, b4, b5⟩ := back a d1
      exact ⟨i, b1, by rw [pk_un q, b2]; exact d2, by rw [pk_un q, b4]; exact d3, by rw [pk_un q, b5]; exact d4⟩
