/-! The k-th number that locks a row. -/
def sm_D (ru lr lb : Nat → Int32) (row L : Int32) (j : Nat) : Prop := lr j = row ∧ ¬ ru (lb j).toNatClampNeg = 0 ∧ ¬ lb j ≤ L
theorem sm_lrI {ru lr lb lh : Nat → Int32} {row L hw : Int32} {q : Nat} (hp : ∀ j, j < q → ∃ z : Nat, 1 ≤ z ∧ z < 4001 ∧ lb j = nI z) : ∀ i, i ≤ q →
    (fw_it (mx_lrS ru lr lb lh row L) i (0, hw) = (0, hw) ∧ ∀ j, j < i → ¬ sm_D ru lr lb row L j) ∨ (∃ j, j < i ∧ sm_D ru lr lb row L j ∧ fw_it (mx_lrS ru lr lb lh row L) i (0, hw) = (lb j, lh j) ∧ ∀ j', j' < i → sm_D ru lr lb row L j' → lb j ≤ lb j')
  | 0, _ => Or.inl ⟨rfl, fun j h => absurd h (Nat.not_lt_zero _)⟩
  | i + 1, hi => by
    have ih := sm_lrI (ru := ru) (lr := lr) (lb := lb) (lh := lh) (row := row) (L := L) (hw := hw) hp i (by omega)
    rw [fw_itS]
    generalize fw_it (mx_lrS ru lr lb lh row L) i (0, hw) = st at ih ⊢
    have nz : ∀ j, j < q → ¬ lb j = 0 := fun j hj e => by
      obtain ⟨z, z1, z2, ez⟩ := hp j hj
      rw [ez] at e; exact nI_ne0 (by omega) (by omega) e
    have hD : (decide (lr i = row) && !decide (ru (lb i).toNatClampNeg = 0) && !decide (lb i ≤ L)) = true ↔ sm_D ru lr lb row L i := by
      simp only [Bool.and_eq_true, Bool.not_eq_true', decide_eq_false_iff_not, decide_eq_true_eq, sm_D]
      exact ⟨fun h => ⟨h.1.1, h.1.2, h.2⟩, fun h => ⟨⟨h.1, h.2.1⟩, h.2.2⟩⟩
    unfold mx_lrS
    by_cases cc : sm_D ru lr lb row L i
    · rw [hD.mpr cc, Bool.true_and]
      rcases ih with ⟨e, hn⟩ | ⟨j, hj, cj, ej, mj⟩
      · rw [e, decide_eq_true rfl, Bool.true_or, if_pos rfl]
        refine Or.inr ⟨i, by omega, cc, rfl, fun j' hj' c' => ?_⟩
        by_cases q : j' = i
        · subst q; exact Int32.le_refl _
        · exact absurd c' (hn j' (by omega))
      · rw [ej]
        show ((if (decide (lb j = 0) || !decide (lb j ≤ lb i)) = true then (lb i, lh i) else (lb j, lh j)) = (0, hw) ∧ _) ∨ ∃ j_1, j_1 < i + 1 ∧ _ ∧ (if (decide (lb j = 0) || !decide (lb j ≤ lb i)) = true then (lb i, lh i) else (lb j, lh j)) = (lb j_1, lh j_1) ∧ _
        rw [decide_eq_false (nz j (by omega)), Bool.false_or]
        by_cases d : lb j ≤ lb i
        · rw [decide_eq_true d, Bool.not_true, if_neg (by decide)]
          refine Or.inr ⟨j, by omega, cj, rfl, fun j' hj' c' => ?_⟩
          by_cases q : j' = i
          · subst q; exact d
          · exact mj j' (by omega) c'
        · rw [decide_eq_false d, Bool.not_false, if_pos rfl]
          refine Or.inr ⟨i, by omega, cc, rfl, fun j' hj' c' => ?_⟩
          by_cases q : j' = i
          · subst q; exact Int32.le_refl _
          · exact Int32.le_trans (Int32.le_of_lt (Int32.not_le.mp d)) (mj j' (by omega) c')
    · have hf : (decide (lr i = row) && !decide (ru (lb i).toNatClampNeg = 0) && !decide (lb i ≤ L)) = false := by
        cases e : (decide (lr i = row) && !decide (ru (lb i).toNatClampNeg = 0) && !decide (lb i ≤ L)) with
        | false => rfl
        | true => exact absurd (hD.mp e) cc
      rw [hf, Bool.false_and, if_neg (by decide)]
      rcases ih with ⟨e, hn⟩ | ⟨j, hj, cj, ej, mj⟩
      · refine Or.inl ⟨e, fun j hj => ?_⟩
        by_cases q : j = i
        · subst q; exact cc
        · exact hn j (by omega)
      · refine Or.inr ⟨j, by omega, cj, ej, fun j' hj' c' => ?_⟩
        by_cases q : j' = i
        · subst q; exact absurd c' cc
        · exact mj j' (by omega) c'
theorem sm_lrN {g r q : Nat} {rn ru lk ss rw sg lr lb lh : Nat → Int32} (hg : g < 4000) (hL : sm_L g r q rn ru lk ss rw sg lr lb lh) {x1 L hw : Int32} {pos : Nat} (hpos : ∀ i, i < r → rw i = x1 → (i < pos ↔ lk i ≤ L)) :
    (∃ i, i < r ∧ pos ≤ i ∧ rw i = x1 ∧ (∀ i', pos ≤ i' → i' < i → ¬ rw i' = x1) ∧ fw_it (mx_lrS ru lr lb lh x1 L) q (0, hw) = (lk i, sg i)) ∨ ((∀ i, i < r → pos ≤ i → ¬ rw i = x1) ∧ fw_it (mx_lrS ru lr lb lh x1 L) q (0, hw) = (0, hw)) := by
  obtain ⟨h1, h2, h3, h4, h5, h6, h7⟩ := hL
  have c2m : ∀ i, i < r → pos ≤ i → rw i = x1 → ∃ j, j < q ∧ lb j = lk i ∧ sm_D ru lr lb x1 L j := fun i hi hp e => by
    obtain ⟨j, d1, d2, d3, d4⟩ := h6 i hi
    obtain ⟨z, a, b, c, d, -⟩ := h1 i hi
    refine ⟨j, d1, d2, by rw [d3]; exact e, by rw [d2, c, sm_cl (by omega)]; exact d, ?_⟩
    rw [d2]; intro k
    have := (hpos i hi e).mpr k; omega
  rcases sm_lrI (ru := ru) (lr := lr) (lb := lb) (lh := lh) (row := x1) (L := L) (hw := hw) (q := q) (fun j hj => by obtain ⟨z, a, b, e, -⟩ := h4 j hj; exact ⟨z, a, by omega, e⟩) q (Nat.le_refl q) with ⟨e, hn⟩ | ⟨j, hj, cj, ej, mj⟩
  · refine Or.inr ⟨fun i hi hp er => ?_, e⟩
    obtain ⟨j, d1, -, d2⟩ := c2m i hi hp er
    exact hn j d1 d2
  · obtain ⟨i, d1, d2, d3, d4⟩ := h7 j hj cj.2.1
    have er : rw i = x1 := by rw [d3]; exact cj.1
    refine Or.inl ⟨i, d1, ?_, er, fun i' hp hlt er' => ?_, by rw [ej, d2, d4]⟩
    · rcases Nat.lt_or_ge i pos with z | z
      · exact absurd (by rw [← d2]; exact (hpos i d1 er).mp z) cj.2.2
      · exact z
    · obtain ⟨j', f1, f2, f3⟩ := c2m i' (by omega) hp er'
      have a := mj j' f1 f3
      rw [f2, ← d2] at a
      have := h3 i i' d1 (by omega) (Int32.le_antisymm a (h2 i' i hlt d1)) (by rw [er, er'])
      omega
theorem px_cnt_flat {P : Nat → Bool} {a : Nat} : ∀ {b : Nat}, a ≤ b → (∀ i, a ≤ i → i < b → P i = false) → px_cnt P b = px_cnt P a
  | 0, h, _ => by rw [Nat.le_zero.mp h]
  | b + 1, h, hf => by
    by_cases e : a = b + 1
    · rw [e]
    · rw [px_cnt, hf b (by omega) (by omega), if_neg (by decide), px_cnt_flat (by omega) (fun i h1 h2 => hf i h1 (by omega))]
theorem px_cnt_le2 {P : Nat → Bool} {a : Nat} : ∀ {b : Nat}, a ≤ b → px_cnt P a ≤ px_cnt P b
  | 0, h => by rw [Nat.le_zero.mp h]; exact Nat.le_refl _
  | b + 1, h => by
    by_cases e : a = b + 1
    · rw [e]; exact Nat.le_refl _
    · have := px_cnt_le2 (P := P) (a := a) (b := b) (by omega)
      rw [px_cnt]
      split <;> omega
theorem px_cnt_S {P : Nat → Bool} {i : Nat} (h : P i = true) : px_cnt P (i + 1) = px_cnt P i + 1 := by rw [px_cnt, if_pos h]
theorem sm_lrT {g r q : Nat} {rn ru lk ss rw sg lr lb lh : Nat → Int32} (hg : g < 4000) (hL : sm_L g r q rn ru lk ss rw sg lr lb lh) (x1 : Int32) : ∀ t, t ≤ px_cnt (px_rowP rw x1) r →
    ∃ pos, pos ≤ r ∧ px_cnt (px_rowP rw x1) pos = t ∧ (∀ i, i < r → rw i = x1 → (i < pos ↔ lk i ≤ (mx_lrT ru lr lb lh q x1 t).1)) ∧ ((t = 0 ∧ mx_lrT ru lr lb lh q x1 t = (0, 0)) ∨ (∃ i, i + 1 = pos ∧ rw i = x1 ∧ mx_lrT ru lr lb lh q x1 t = (lk i, sg i)))
  | 0, _ => by
    refine ⟨0, Nat.zero_le _, rfl, fun i hi _ => ?_, Or.inl ⟨rfl, rfl⟩⟩
    obtain ⟨z, a, b, c, -⟩ := hL.1 i hi
    refine ⟨fun h => absurd h (Nat.not_lt_zero _), fun h => ?_⟩
    rw [c] at h
    exact absurd h (nI_nle (by omega) (by omega))
  | t + 1, ht => by
    obtain ⟨pos, p1, p2, p3, p4⟩ := sm_lrT hg hL x1 t (by omega)
    have e : mx_lrT ru lr lb lh q x1 (t + 1) = fw_it (mx_lrS ru lr lb lh x1 (mx_lrT ru lr lb lh q x1 t).1) q (0, (mx_lrT ru lr lb lh q x1 t).2) := rfl
    rcases sm_lrN (hw := (mx_lrT ru lr lb lh q x1 t).2) hg hL p3 with ⟨i, i1, i2, i3, i4, i5⟩ | ⟨hno, -⟩
    · have hi : px_rowP rw x1 i = true := decide_eq_true i3
      refine ⟨i + 1, by omega, ?_, fun i' hi' er => ?_, Or.inr ⟨i, rfl, i3, by rw [e]; exact i5⟩⟩
      · rw [px_cnt_S hi, px_cnt_flat (P := px_rowP rw x1) i2 (fun a h1 h2 => decide_eq_false (i4 a h1 h2)), p2]
      · rw [e, i5]
        show i' < i + 1 ↔ lk i' ≤ lk i
        constructor
        · intro h
          by_cases q : i' = i
          · rw [q]; exact Int32.le_refl _
          · exact hL.2.1 i' i (by omega) i1
        · intro h
          rcases Nat.lt_or_ge i' (i + 1) with z | z
          · exact z
          · have := hL.2.2.1 i' i hi' i1 (Int32.le_antisymm h (hL.2.1 i i' (by omega) hi')) (by rw [er, i3])
            omega
    · have := px_cnt_flat (P := px_rowP rw x1) p1 (fun a h1 h2 => decide_eq_false (hno a h2 h1))
      omega
theorem sm_lrE {g r q : Nat} {rn ru lk ss rw sg lr lb lh : Nat → Int32} (hg : g < 4000) (hL : sm_L g r q rn ru lk ss rw sg lr lb lh) (x1 : Int32) : (mx_lrT ru lr lb lh q x1 (px_cnt (px_rowP rw x1) r + 1)).1 = 0 := by
  obtain ⟨pos, p1, p2, p3, p4⟩ := sm_lrT hg hL x1 (px_cnt (px_rowP rw x1) r) (Nat.le_refl _)
  have e : mx_lrT ru lr lb lh q x1 (px_cnt (px_rowP rw x1) r + 1) = fw_it (mx_lrS ru lr lb lh x1 (mx_lrT ru lr lb lh q x1 (px_cnt (px_rowP rw x1) r)).1) q (0, (mx_lrT ru lr lb lh q x1 (px_cnt (px_rowP rw x1) r)).2) := rfl
  rcases sm_lrN (hw := (mx_lrT ru lr lb lh q x1 (px_cnt (px_rowP rw x1) r)).2) hg hL p3 with ⟨i, i1, i2, i3, i4, i5⟩ | ⟨hno, h⟩
  · have hi : px_rowP rw x1 i = true := decide_eq_true i3
    have a := px_cnt_S hi
    have b := px_cnt_le2 (P := px_rowP rw x1) i2
    have c := px_cnt_le2 (P := px_rowP rw x1) (show i + 1 ≤ r by omega)
    omega
  · rw [e, h]
theorem sm_locker {g r q : Nat} {rn ru lk ss rw sg lr lb lh : Nat → Int32} (hg : g < 4000) (hr : r ≤ 512) (hL : sm_L g r q rn ru lk ss rw sg lr lb lh) {x1 x2 : Int32} {T : Nat} (hR : mx_lrR ru lr lb lh q x1 x2 T) :
    px_sn r lk rw sg x1 x2 = if (mx_lrT ru lr lb lh q x1 T).2 = 1 then -(mx_lrT ru lr lb lh q x1 T).1 else (mx_lrT ru lr lb lh q x1 T).1 := by
  obtain ⟨hT, hc, hs⟩ := hR
  have cr : ∀ i, i ≤ r → px_cnt (px_rowP rw x1) i < 2 ^ 31 := fun i hi => by
    have := px_cnt_le (P := px_rowP rw x1) i; omega
  unfold px_sn
  by_cases c : x2 < 0
  · have : T = 0 := by
      rcases Nat.eq_zero_or_pos T with z | z
      · exact z
      · exact absurd c (hc 0 z).1
    rw [this, px_fst_none]
    · show (0 : Int32) = if (0 : Int32) = 1 then -0 else 0
      decide
    · intro i hi
      unfold px_snP
      have : ¬ nI (px_cnt (px_rowP rw x1) i) = x2 := fun e => by
        rw [← e] at c; exact nI_pos (cr i (by omega)) c
      rw [decide_eq_false this, Bool.and_false]
  · obtain ⟨j, hj, rfl⟩ := nI_of c
    have c1 : ∀ t, t < T → t ≤ j := fun t ht => fw_ngt (hc t ht).1 hj (by omega)
    have hTn : T ≤ px_cnt (px_rowP rw x1) r + 1 := by
      rcases Nat.lt_or_ge (px_cnt (px_rowP rw x1) r + 1) T with z | z
      · rcases (hc _ z).2 with y | y
        · omega
        · rw [sm_lrE hg hL x1] at y; exact absurd (by decide) y
      · exact z
    have hT0 : T ≠ 0 := fun z => by
      rcases hs with y | y
      · rw [z] at y; exact absurd y (nI_pos hj)
      · exact y.1 z
    rcases Nat.lt_or_ge (px_cnt (px_rowP rw x1) r) T with z | z
    · have eT : T = px_cnt (px_rowP rw x1) r + 1 := by omega
      have := c1 _ z
      have z0 : (mx_lrT ru lr lb lh q x1 T).1 = 0 := by rw [eT]; exact sm_lrE hg hL x1
      rw [z0, px_fst_none]
      · show (0 : Int32) = if _ = (1 : Int32) then -0 else 0
        split <;> decide
      · intro i hi
        unfold px_snP
        by_cases er : rw i = x1
        · have hi2 : px_rowP rw x1 i = true := decide_eq_true er
          have a := px_cnt_S hi2
          have b := px_cnt_le2 (P := px_rowP rw x1) (show i + 1 ≤ r by omega)
          have : ¬ nI (px_cnt (px_rowP rw x1) i) = nI j := fun e => by
            have := sm_nI (cr i (by omega)) hj e; omega
          rw [decide_eq_false this, Bool.and_false]
        · rw [decide_eq_false er, Bool.false_and]
    · obtain ⟨pos, p1, p2, p3, p4⟩ := sm_lrT hg hL x1 T z
      rcases p4 with ⟨p, -⟩ | ⟨i, i1, i2, i3⟩
      · exact absurd p hT0
      · have hi : px_rowP rw x1 i = true := decide_eq_true i2
        have ci : px_cnt (px_rowP rw x1) i + 1 = T := by rw [← px_cnt_S hi, i1]; exact p2
        obtain ⟨z1, za, zb, zc, zd, ze, zf⟩ := hL.1 i (by omega)
        have hjT : j < T := by
          rcases hs with y | y
          · exact fw_gt y hj (by omega)
          · rw [i3] at y
            have y2 : lk i ≤ 0 := y.2
            rw [zc] at y2; exact absurd y2 (nI_nle (by omega) (by omega))
        have := c1 (T - 1) (by omega)
        have ej : px_cnt (px_rowP rw x1) i = j := by omega
        have hf : px_fst (px_snP rw x1 (nI j)) r = some i := by
          refine px_fst_eq (k := i) (fun i' hi' => ?_) ?_ (by omega)
          · unfold px_snP
            by_cases er : rw i' = x1
            · have hi2 : px_rowP rw x1 i' = true := decide_eq_true er
              have a := px_cnt_S hi2
              have b := px_cnt_le2 (P := px_rowP rw x1) (show i' + 1 ≤ i by omega)
              have : ¬ nI (px_cnt (px_rowP rw x1) i') = nI j := fun e => by
                have := sm_nI (cr i' (by omega)) hj e; omega
              rw [decide_eq_false this, Bool.and_false]
            · rw [decide_eq_false er, Bool.false_and]
          · unfold px_snP
            rw [decide_eq_true i2, ej, decide_eq_true rfl]; rfl
        rw [hf, i3]
        show (if sg i = 2 then lk i else -lk i) = if sg i = 1 then -lk i else lk i
        rcases zf with e | e
        · rw [e, if_neg (by decide), if_pos rfl]
        · rw [e, if_pos rfl, if_neg (by decide)]
