/-! Steps of the queue and of the holdings. -/
theorem px_cnt_up {P Q : Nat → Bool} {x : Nat} (h1 : P x = false) (h2 : Q x = true) (h3 : ∀ y, y ≠ x → P y = Q y) : ∀ {n : Nat}, x < n → px_cnt Q n = px_cnt P n + 1
  | 0, h => absurd h (Nat.not_lt_zero _)
  | n + 1, h => by
    simp only [px_cnt]
    by_cases e : x = n
    · subst e
      have : ∀ m, m ≤ x → px_cnt Q m = px_cnt P m := by
        intro m
        induction m with
        | zero => exact fun _ => rfl
        | succ m ih => intro hm; simp only [px_cnt, ih (by omega), h3 m (by omega)]
      simp [h1, h2, this x (Nat.le_refl x)]
    · rw [px_cnt_up h1 h2 h3 (n := n) (by omega), h3 n (fun q => e q.symm)]
      split <;> omega
theorem px_cnt_true : ∀ n, px_cnt (fun _ => true) n = n
  | 0 => rfl
  | n + 1 => by simp [px_cnt, px_cnt_true n]
theorem sm_Q_room {g t0 n : Nat} {od aw md kd nb bg : Nat → Int32} {qs Bn : Nat → Nat} (h : sm_Q g t0 n od aw md kd nb bg qs Bn) {x : Nat} (hx : x < 6) (hk : kd x = 0) : n < 6 := by
  obtain ⟨hn, ht0, h1, h2, h3, h4, h5, h6, h7, hg, hcn⟩ := h
  have := px_cnt_lt (P := fun y => !decide (kd y = 0)) (Q := fun _ => true) (n := 6) (fun _ _ _ => rfl) hx (by simp [hk]) rfl
  rw [px_cnt_true] at this
  omega
theorem sm_Q_add {g t0 n : Nat} {od aw md kd nb bg : Nat → Int32} {qs Bn : Nat → Nat} (h : sm_Q g t0 n od aw md kd nb bg qs Bn) {x : Nat} (hx : x < 6) (hk : kd x = 0) (ht : t0 + 1 ≤ 1000) {c : Int32} {aw' md' nb' : Nat → Int32} (ha : ∀ y, y ≠ x → aw' y = aw y) (hm : ∀ y, y ≠ x → md' y = md y) (hnb : ∀ y, y ≠ x → nb' y = nb y)
    (hkind : (c = 1 ∧ aw' x = 0 ∧ ∃ k : Nat, k < 8 ∧ md' x = nI (k + 1)) ∨ (c = 2 ∧ ∃ k : Nat, 1 ≤ k ∧ k ≤ g ∧ aw' x = nI k ∧ nb' x = nI k)) :
    ∃ qs' Bn' : Nat → Nat, sm_Q g (t0 + 1) (n + 1) (upd od n (nI x)) aw' md' (upd kd x c) nb' (upd bg x (nI (t0 + 1))) qs' Bn' := by
  have hn6 := sm_Q_room h hx hk
  obtain ⟨hn, ht0, h1, h2, h3, h4, h5, h6, h7, hg, hcn⟩ := h
  have hc : c ≠ 0 := by rcases hkind with ⟨rfl, -⟩ | ⟨rfl, -⟩ <;> decide
  have hne : ∀ k, k < n → qs k ≠ x := fun k hk' e => (h3 x hx).mpr ⟨k, hk', e⟩ hk
  obtain ⟨f, fa, fb⟩ : ∃ f : Nat → Nat, f n = x ∧ ∀ k, k ≠ n → f k = qs k := ⟨fun k => if k = n then x else qs k, by simp, fun k h => by simp [h]⟩
  obtain ⟨B, Ba, Bb⟩ : ∃ f : Nat → Nat, f x = t0 + 1 ∧ ∀ k, k ≠ x → f k = Bn k := ⟨fun k => if k = x then t0 + 1 else Bn k, by simp, fun k h => by simp [h]⟩
  refine ⟨f, B, by omega, ht, fun k hk' => ?_, fun i j hi hj e => ?_, fun y hy => ?_, fun i j hij hj => ?_, fun y hy => ?_, fun k hk' => ?_, fun y hy => ?_, hg, ?_⟩
  · by_cases q : k = n
    · subst q; rw [fa, pk_us]; exact ⟨hx, rfl⟩
    · rw [fb k q, pk_un q]; exact h1 k (by omega)
  · by_cases q : i = n <;> by_cases q2 : j = n
    · omega
    · rw [q, fa, fb j q2] at e; exact absurd e.symm (hne j (by omega))
    · rw [q2, fa, fb i q] at e; exact absurd e (hne i (by omega))
    · rw [fb i q, fb j q2] at e; exact h2 i j (by omega) (by omega) e
  · by_cases q : y = x
    · subst q
      rw [pk_us]
      exact ⟨fun _ => ⟨n, by omega, fa⟩, fun _ => hc⟩
    · rw [pk_un q, h3 y hy]
      constructor
      · rintro ⟨k, hk', e⟩; exact ⟨k, by omega, by rw [fb k (by omega)]; exact e⟩
      · rintro ⟨k, hk', e⟩
        by_cases q2 : k = n
        · rw [q2, fa] at e; exact absurd e.symm q
        · rw [fb k q2] at e; exact ⟨k, by omega, e⟩
  · have hi : i ≠ n := by omega
    rw [fb i hi, Bb _ (hne i (by omega))]
    by_cases q : j = n
    · rw [q, fa, Ba]
      have := (h5 _ (h1 i (by omega)).1).2; omega
    · rw [fb j q, Bb _ (hne j (by omega))]
      exact h4 i j hij (by omega)
  · by_cases q : y = x
    · subst q; rw [pk_us, Ba]; exact ⟨rfl, Nat.le_refl _⟩
    · rw [pk_un q, Bb y q]; have := h5 y hy; exact ⟨this.1, by omega⟩
  · by_cases q : k = n
    · rw [q, fa, Ba]; omega
    · rw [fb k q, Bb _ (hne k (by omega))]; exact h6 k (by omega)
  · by_cases q : y = x
    · subst q
      rw [pk_us]
      exact Or.inr hkind
    · rw [pk_un q, ha y q, hm y q, hnb y q]; exact h7 y hy
  · rw [px_cnt_up (P := fun y => !decide (kd y = 0)) (Q := fun y => !decide (upd kd x c y = 0)) (x := x) (by simp [hk]) (by simp [pk_us, hc]) (fun y hy => by simp only [pk_un hy]) hx, ← hcn]
theorem px_rm_eq {n p : Nat} {od : Nat → Int32} {v : Int32} (hp : p < n) (h1 : od p = v) (h2 : ∀ k, k < n → k ≠ p → od k ≠ v) : ∀ i, i ≤ n →
    ((i ≤ p → (fw_it (px_rmS v) i (0, od)).1 = i ∧ ∀ k, (fw_it (px_rmS v) i (0, od)).2 k = od k) ∧ (p < i → (fw_it (px_rmS v) i (0, od)).1 = i - 1 ∧ ∀ k, (fw_it (px_rmS v) i (0, od)).2 k = if k < p then od k else if k < i - 1 then od (k + 1) else od k))
  | 0, _ => ⟨fun _ => ⟨rfl, fun _ => rfl⟩, fun h => absurd h (Nat.not_lt_zero _)⟩
  | i + 1, hi => by
    obtain ⟨a, b⟩ := px_rm_eq hp h1 h2 i (by omega)
    rw [fw_itS]
    generalize fw_it (px_rmS v) i (0, od) = st at a b ⊢
    unfold px_rmS
    rcases Nat.lt_trichotomy i p with c | c | c
    · obtain ⟨a1, a2⟩ := a (by omega)
      rw [if_neg (by rw [a2]; exact h2 i (by omega) (by omega))]
      refine ⟨fun _ => ⟨by show st.1 + 1 = i + 1; omega, fun k => ?_⟩, fun h => by omega⟩
      show upd st.2 st.1 (st.2 i) k = od k
      by_cases q : k = st.1
      · subst q; rw [pk_us, a2, a1]
      · rw [pk_un q, a2]
    · obtain ⟨a1, a2⟩ := a (by omega)
      rw [if_pos (by rw [a2, c]; exact h1)]
      refine ⟨fun h => by omega, fun _ => ⟨by omega, fun k => ?_⟩⟩
      rw [a2]
      by_cases q : k < p
      · rw [if_pos q]
      · rw [if_neg q, if_neg (by omega)]
    · obtain ⟨b1, b2⟩ := b c
      have e : st.2 i = od i := by rw [b2, if_neg (by omega), if_neg (by omega)]
      rw [if_neg (by rw [e]; exact h2 i (by omega) (by omega))]
      refine ⟨fun h => by omega, fun _ => ⟨by show st.1 + 1 = i + 1 - 1; omega, fun k => ?_⟩⟩
      show upd st.2 st.1 (st.2 i) k = _
      by_cases q : k = st.1
      · subst q
        rw [pk_us, e, if_neg (by omega), if_pos (by omega), show st.1 + 1 = i by omega]
      · rw [pk_un q, b2]
        by_cases q2 : k < p
        · rw [if_pos q2, if_pos q2]
        · rw [if_neg q2, if_neg q2]
          by_cases q3 : k < i - 1
          · rw [if_pos q3, if_pos (by omega)]
          · rw [if_neg q3, if_neg (by omega)]
theorem sm_Q_rm {g t0 n : Nat} {od aw md kd nb bg : Nat → Int32} {qs Bn : Nat → Nat} (h : sm_Q g t0 n od aw md kd nb bg qs Bn) {x : Nat} (hx : x < 6) (hk : kd x ≠ 0) :
    ∃ qs' : Nat → Nat, sm_Q g t0 (px_rm n od (nI x)).1 (px_rm n od (nI x)).2 aw md (upd kd x 0) nb bg qs' Bn := by
  obtain ⟨hn, ht0, h1, h2, h3, h4, h5, h6, h7, hg, hcn⟩ := h
  obtain ⟨p, hp, rfl⟩ := (h3 x hx).mp hk
  obtain ⟨-, b⟩ := px_rm_eq (od := od) (v := nI (qs p)) hp (h1 p hp).2 (fun k hk' hkp e => hkp (h2 k p hk' hp (by
    rw [(h1 k hk').2] at e
    exact sm_nI (by have := (h1 k hk').1; omega) (by omega) e))) n (Nat.le_refl n)
  obtain ⟨b1, b2⟩ := b hp
  have e1 : (px_rm n od (nI (qs p))).1 = n - 1 := b1
  have e2 : ∀ k, (px_rm n od (nI (qs p))).2 k = if k < p then od k else if k < n - 1 then od (k + 1) else od k := b2
  obtain ⟨f, fa, fb⟩ : ∃ f : Nat → Nat, (∀ k, k < p → f k = qs k) ∧ ∀ k, ¬ k < p → f k = qs (k + 1) := ⟨fun k => if k < p then qs k else qs (k + 1), fun k h => by simp [h], fun k h => by simp [h]⟩
  refine ⟨f, ?_⟩
  rw [e1]
  refine ⟨by omega, ht0, fun k hk' => ?_, fun i j hi hj e => ?_, fun y hy => ?_, fun i j hij hj => ?_, h5, fun k hk' => ?_, fun y hy => ?_, hg, ?_⟩
  · rw [e2]
    by_cases q : k < p
    · rw [if_pos q, fa k q]; exact h1 k (by omega)
    · rw [if_neg q, fb k q, if_pos hk']; exact h1 (k + 1) (by omega)
  · by_cases q : i < p <;> by_cases q2 : j < p
    · rw [fa i q, fa j q2] at e; exact h2 i j (by omega) (by omega) e
    · rw [fa i q, fb j q2] at e; have := h2 i (j + 1) (by omega) (by omega) e; omega
    · rw [fb i q, fa j q2] at e; have := h2 (i + 1) j (by omega) (by omega) e; omega
    · rw [fb i q, fb j q2] at e; have := h2 (i + 1) (j + 1) (by omega) (by omega) e; omega
  · by_cases q : y = qs p
    · subst q
      rw [pk_us]
      refine ⟨fun z => absurd rfl z, fun ⟨k, hk', e⟩ => ?_⟩
      by_cases q : k < p
      · rw [fa k q] at e; have := h2 k p (by omega) hp e; omega
      · rw [fb k q] at e; have := h2 (k + 1) p (by omega) hp e; omega
    · rw [pk_un q, h3 y hy]
      constructor
      · rintro ⟨k, hk', e⟩
        rcases Nat.lt_trichotomy k p with c | c | c
        · exact ⟨k, by omega, by rw [fa k c]; exact e⟩
        · subst c; exact absurd e.symm q
        · exact ⟨k - 1, by omega, by rw [fb (k - 1) (by omega), show k - 1 + 1 = k by omega]; exact e⟩
      · rintro ⟨k, hk', e⟩
        by_cases q2 : k < p
        · rw [fa k q2] at e; exact ⟨k, by omega, e⟩
        · rw [fb k q2] at e; exact ⟨k + 1, by omega, e⟩
  · by_cases q : i < p <;> by_cases q2 : j < p
    · rw [fa i q, fa j q2]; exact h4 i j hij (by omega)
    · rw [fa i q, fb j q2]; exact h4 i (j + 1) (by omega) (by omega)
    · omega
    · rw [fb i q, fb j q2]; exact h4 (i + 1) (j + 1) (by omega) (by omega)
  · by_cases q : k < p
    · rw [fa k q]; exact h6 k (by omega)
    · rw [fb k q]; exact h6 (k + 1) (by omega)
  · by_cases q : y = qs p
    · subst q; rw [pk_us]; exact Or.inl rfl
    · rw [pk_un q]; exact h7 y hy
  · have := px_cnt_up (P := fun y => !decide (upd kd (qs p) 0 y = 0)) (Q := fun y => !decide (kd y = 0)) (x := qs p) (by simp [pk_us]) (by simp [hk]) (fun y hy => by simp only [pk_un hy]) hx
    omega
theorem sm_Q_g {g t0 n : Nat} {od aw md kd nb bg : Nat → Int32} {qs Bn : Nat → Nat} (h : sm_Q g t0 n od aw md kd nb bg qs Bn) (hg' : g + 1 < 4000) : sm_Q (g + 1) t0 n od aw md kd nb bg qs Bn := by
  obtain ⟨hn, ht0, h1, h2, h3, h4, h5, h6, h7, hg, hcn⟩ := h
  refine ⟨hn, ht0, h1, h2, h3, h4, h5, h6, fun x hx => ?_, hg', hcn⟩
  rcases h7 x hx with z | z | ⟨z, k, a, b, c⟩
  · exact Or.inl z
  · exact Or.inr (Or.inl z)
  · exact Or.inr (Or.inr ⟨z, k, a, by omega, c⟩)
/-! holdings -/
theorem sm_H_take {lv hd : Nat → Int32} (h : sm_H lv hd) {x y k z : Nat} (hx : x < 6) (hy : y < 8) (hk : k < 8) (hz : z < 8) : sm_H (upd lv (64 * x + 8 * y + k) (nI z)) (upd hd (72 * x + 9 * y + (k + 1)) (nI (z + 1))) := by
  intro x' y' k' hx' hy' hk'
  by_cases q : 64 * x' + 8 * y' + k' = 64 * x + 8 * y + k
  · have q2 : 72 * x' + 9 * y' + (k' + 1) = 72 * x + 9 * y + (k + 1) := by omega
    rw [q, q2, pk_us, pk_us, nI_1]
    exact ⟨rfl, Or.inr ⟨z, hz, rfl⟩⟩
  · have q2 : 72 * x' + 9 * y' + (k' + 1) ≠ 72 * x + 9 * y + (k + 1) := by omega
    rw [pk_un q, pk_un q2]
    exact h x' y' k' hx' hy' hk'
theorem px_rep_eq (x : Nat) (lo lev : Int32) (f : Nat → Int32) : ∀ i j, fw_it (px_repS x lo lev) i f j = if 64 * x ≤ j ∧ j < 64 * x + i ∧ ¬ f j < lo then lev else f j
  | 0, j => by rw [fw_it0, if_neg (by omega)]
  | i + 1, j => by
    rw [fw_itS]
    have ih := px_rep_eq x lo lev f i
    generalize fw_it (px_repS x lo lev) i f = h at ih ⊢
    unfold px_repS
    have e : h (64 * x + i) = f (64 * x + i) := by rw [ih, if_neg (by omega)]
    rw [e]
    by_cases c : f (64 * x + i) < lo
    · rw [if_pos c, ih]
      by_cases q : j = 64 * x + i
      · subst q; rw [if_neg (by omega), if_neg (by simp [c])]
      · by_cases d : 64 * x ≤ j ∧ j < 64 * x + i ∧ ¬ f j < lo
        · rw [if_pos d, if_pos ⟨d.1, by omega, d.2.2⟩]
        · rw [if_neg d, if_neg (fun z => d ⟨z.1, by omega, z.2.2⟩)]
    · rw [if_neg c]
      by_cases q : j = 64 * x + i
      · subst q; rw [pk_us, if_pos ⟨by omega, by omega, c⟩]
      · rw [pk_un q, ih]
        by_cases d : 64 * x ≤ j ∧ j < 64 * x + i ∧ ¬ f j < lo
        · rw [if_pos d, if_pos ⟨d.1, by omega, d.2.2⟩]
        · rw [if_neg d, if_neg (fun z => d ⟨z.1, by omega, z.2.2⟩)]
theorem mx_end_eq (x : Nat) (lo to : Int32) (f : Nat → Int32) : ∀ i j, fw_it (mx_endS x lo to) i f j = if 72 * x ≤ j ∧ j < 72 * x + i then (if f j ≤ lo then f j else to) else f j
  | 0, j => by rw [fw_it0, if_neg (by omega)]
  | i + 1, j => by
    rw [fw_itS]
    have ih := mx_end_eq x lo to f i
    generalize fw_it (mx_endS x lo to) i f = h at ih ⊢
    unfold mx_endS
    have e : h (72 * x + i) = f (72 * x + i) := by rw [ih, if_neg (by omega)]
    rw [e]
    by_cases q : j = 72 * x + i
    · subst q; rw [pk_us, if_pos (show 72 * x ≤ 72 * x + i ∧ 72 * x + i < 72 * x + (i + 1) by omega)]
    · rw [pk_un q, ih]
      by_cases d : 72 * x ≤ j ∧ j < 72 * x + i
      · rw [if_pos d, if_pos (show 72 * x ≤ j ∧ j < 72 * x + (i + 1) by omega)]
      · rw [if_neg d, if_neg (by omega)]
theorem sm_lvl {v lo : Int32} {z : Nat} (hz : z < 9) (hlo : lo = nI z) (hv : v = -1 ∨ ∃ u : Nat, u < 8 ∧ v = nI u) : (v + 1 ≤ lo ↔ v < lo) := by
  subst hlo
  rcases hv with rfl | ⟨u, hu, rfl⟩
  · exact (by decide +kernel : ∀ z, z < 9 → ((-1 : Int32) + 1 ≤ nI z ↔ (-1 : Int32) < nI z)) z hz
  · rw [nI_1, nI_leI (by omega) (by omega), nI_ltI (by omega) (by omega)]
    omega
/-- end and release: both sides put what is at a level and above at another -/
theorem sm_H_rep {lv hd : Nat → Int32} (h : sm_H lv hd) {x z : Nat} (hx : x < 6) (hz : z < 9) {lev to : Int32} (ht : to = lev + 1) (hl : lev = -1 ∨ ∃ u : Nat, u < 8 ∧ lev = nI u) : sm_H (px_rep x (nI z) lev lv) (mx_end x (nI z) to hd) := by
  intro x' y' k' hx' hy' hk'
  unfold px_rep mx_end
  rw [px_rep_eq, mx_end_eq]
  obtain ⟨h1, h2⟩ := h x' y' k' hx' hy' hk'
  have key := sm_lvl hz rfl h2
  by_cases q : x' = x
  · subst q
    rw [if_pos (show 72 * x' ≤ 72 * x' + 9 * y' + (k' + 1) ∧ 72 * x' + 9 * y' + (k' + 1) < 72 * x' + 72 by omega), h1]
    by_cases c : lv (64 * x' + 8 * y' + k') < nI z
    · rw [if_pos (key.mpr c), if_neg (fun z => z.2.2 c)]
      exact ⟨rfl, h2⟩
    · rw [if_neg (fun z => c (key.mp z)), if_pos ⟨by omega, by omega, c⟩]
      exact ⟨ht, hl⟩
  · rw [if_neg (by omega), if_neg (by omega)]
    exact ⟨h1, h2⟩
theorem px_fgO_eq (y x : Nat) (f : Nat → Int32) : ∀ i j, fw_it (px_fgS y x) i f j = if 64 * x + 8 * y ≤ j ∧ j < 64 * x + 8 * y + i then -1 else f j
  | 0, j => by rw [fw_it0, if_neg (by omega)]
  | i + 1, j => by
    rw [fw_itS]
    unfold px_fgS
    by_cases q : j = 64 * x + 8 * y + i
    · subst q; rw [pk_us, if_pos (by omega)]
    · rw [pk_un q]
      have := px_fgO_eq y x f i j
      unfold px_fgS at this
      rw [this]
      by_cases d : 64 * x + 8 * y ≤ j ∧ j < 64 * x + 8 * y + i
      · rw [if_pos d, if_pos ⟨d.1, by omega⟩]
      · rw [if_neg d, if_neg (by omega)]
theorem px_fg_eq (y : Nat) (f : Nat → Int32) {x' y' k' : Nat} (hy : y < 8) (hy' : y' < 8) (hk' : k' < 8) : ∀ i, fw_it (px_fgO y) i f (64 * x' + 8 * y' + k') = if y' = y ∧ x' < i then -1 else f (64 * x' + 8 * y' + k')
  | 0 => by rw [fw_it0, if_neg (by omega)]
  | i + 1 => by
    rw [fw_itS]
    unfold px_fgO
    rw [px_fgO_eq]
    have ih := px_fg_eq y f hy hy' hk' (x' := x') i
    unfold px_fgO at ih
    by_cases q : 64 * i + 8 * y ≤ 64 * x' + 8 * y' + k' ∧ 64 * x' + 8 * y' + k' < 64 * i + 8 * y + 8
    · rw [if_pos q, if_pos (by omega)]
    · rw [if_neg q, ih]
      by_cases d : y' = y ∧ x' < i
      · rw [if_pos d, if_pos ⟨d.1, by omega⟩]
      · rw [if_neg d, if_neg (by omega)]
theorem mx_dpI_eq (y s : Nat) (f : Nat → Int32) : ∀ i j, fw_it (mx_dpI y s) i f j = if 72 * s + 9 * y + 1 ≤ j ∧ j < 72 * s + 9 * y + 1 + i then 0 else f j
  | 0, j => by rw [fw_it0, if_neg (by omega)]
  | i + 1, j => by
    rw [fw_itS]
    unfold mx_dpI
    by_cases q : j = 72 * s + 9 * y + (i + 1)
    · subst q; rw [pk_us, if_pos (by omega)]
    · rw [pk_un q]
      have := mx_dpI_eq y s f i j
      unfold mx_dpI at this
      rw [this]
      by_cases d : 72 * s + 9 * y + 1 ≤ j ∧ j < 72 * s + 9 * y + 1 + i
      · rw [if_pos d, if_pos ⟨d.1, by omega⟩]
      · rw [if_neg d, if_neg (by omega)]
theorem mx_dp_eq (kd tb : Nat → Int32) (y : Nat) (f d : Nat → Int32) (hy : y < 8) : ∀ i, i ≤ 6 → (∀ x' y' k', y' < 8 → k' < 8 → (fw_it (mx_dpS kd tb y) i (f, d)).1 (72 * x' + 9 * y' + (k' + 1)) = if y' = y ∧ x' < i then 0 else f (72 * x' + 9 * y' + (k' + 1))) ∧
    (∀ s, (fw_it (mx_dpS kd tb y) i (f, d)).2 s = if s < i then fw_b (!decide (d s = 0) || (decide (kd s = 1) && decide (tb s = nI y))) else d s)
  | 0, _ => ⟨fun x' y' k' _ _ => by rw [fw_it0, if_neg (by omega)], fun s => by rw [fw_it0, if_neg (by omega)]⟩
  | i + 1, hi => by
    obtain ⟨a, b⟩ := mx_dp_eq kd tb y f d hy i (by omega)
    rw [fw_itS]
    generalize fw_it (mx_dpS kd tb y) i (f, d) = st at a b ⊢
    unfold mx_dpS
    refine ⟨fun x' y' k' hy' hk' => ?_, fun s => ?_⟩
    · show fw_it (mx_dpI y i) 8 st.1 _ = _
      rw [mx_dpI_eq]
      by_cases q : 72 * i + 9 * y + 1 ≤ 72 * x' + 9 * y' + (k' + 1) ∧ 72 * x' + 9 * y' + (k' + 1) < 72 * i + 9 * y + 1 + 8
      · rw [if_pos q, if_pos (by omega)]
      · rw [if_neg q, a x' y' k' hy' hk']
        by_cases e : y' = y ∧ x' < i
        · rw [if_pos e, if_pos ⟨e.1, by omega⟩]
        · rw [if_neg e, if_neg (by omega)]
    · show upd st.2 i _ s = _
      by_cases q : s = i
      · subst q; rw [pk_us, b, if_neg (by omega), if_pos (by omega)]
      · rw [pk_un q, b]
        by_cases e : s < i
        · rw [if_pos e, if_pos (by omega)]
        · rw [if_neg e, if_neg (by omega)]
theorem sm_H_drop {lv hd kd tb dr : Nat → Int32} (h : sm_H lv hd) {y : Nat} (hy : y < 8) : sm_H (px_fg y lv) (mx_dp kd tb y (hd, dr)).1 := by
  intro x' y' k' hx' hy' hk'
  unfold px_fg mx_dp
  rw [px_fg_eq y lv hy hy' hk', (mx_dp_eq kd tb y hd dr hy 6 (Nat.le_refl 6)).1 x' y' k' hy' hk']
  by_cases q : y' = y ∧ x' < 6
  · rw [if_pos q, if_pos q]; exact ⟨by decide, Or.inl rfl⟩
  · rw [if_neg q, if_neg q]; exact h x' y' k' hx' hy' hk'
theorem px_md_eq {g t0 n : Nat} {od aw md kd nb bg tb : Nat → Int32} {qs Bn : Nat → Nat} (h : sm_Q g t0 n od aw md kd nb bg qs Bn) (y : Int32) (d : Nat → Int32) : ∀ i, i ≤ n → ∀ s, fw_it (px_mdS od aw tb y) i d s = if (∃ p, p < i ∧ qs p = s) ∧ aw s = 0 ∧ tb s = y ∧ d s = 0 then 1 else d s
  | 0, _, s => by rw [fw_it0, if_neg (fun z => by obtain ⟨⟨p, hp, -⟩, -⟩ := z; exact absurd hp (Nat.not_lt_zero _))]
  | i + 1, hi, s => by
    have h0 := h
    obtain ⟨hn, ht0, h1, h2, h3, h4, h5, h6, h7, hg, hcn⟩ := h
    have ih := px_md_eq (tb := tb) h0 y d i (by omega)
    rw [fw_itS]
    generalize fw_it (px_mdS od aw tb y) i d = f at ih ⊢
    unfold px_mdS
    have cl : (od i).toNatClampNeg = qs i := by rw [(h1 i (by omega)).2]; exact nI_clamp (by have := (h1 i (by omega)).1; omega)
    rw [cl]
    have fi : f (qs i) = d (qs i) := by
      rw [ih, if_neg]
      rintro ⟨⟨p, hp, e⟩, -⟩
      have := h2 p i (by omega) (by omega) e; omega
    have hw : px_wants aw tb f (qs i) y = true ↔ aw (qs i) = 0 ∧ tb (qs i) = y ∧ d (qs i) = 0 := by
      unfold px_wants
      rw [fi]
      simp only [Bool.and_eq_true, decide_eq_true_eq]
      exact ⟨fun z => ⟨z.1.1, z.1.2, z.2⟩, fun z => ⟨⟨z.1, z.2.1⟩, z.2.2⟩⟩
    by_cases c : px_wants aw tb f (qs i) y = true
    · rw [if_pos c]
      have c2 := hw.mp c
      by_cases q : s = qs i
      · subst q; rw [pk_us, if_pos ⟨⟨i, by omega, rfl⟩, c2⟩]
      · rw [pk_un q, ih]
        by_cases e : (∃ p, p < i ∧ qs p = s) ∧ aw s = 0 ∧ tb s = y ∧ d s = 0
        · rw [if_pos e, if_pos (by obtain ⟨⟨p, hp, z⟩, e2⟩ := e; exact ⟨⟨p, by omega, z⟩, e2⟩)]
        · rw [if_neg e, if_neg]
          rintro ⟨⟨p, hp, z⟩, e2⟩
          by_cases w : p = i
          · subst w; exact q z.symm
          · exact e ⟨⟨p, by omega, z⟩, e2⟩
    · rw [if_neg c, ih]
      by_cases e : (∃ p, p < i ∧ qs p = s) ∧ aw s = 0 ∧ tb s = y ∧ d s = 0
      · rw [if_pos e, if_pos (by obtain ⟨⟨p, hp, z⟩, e2⟩ := e; exact ⟨⟨p, by omega, z⟩, e2⟩)]
      · rw [if_neg e, if_neg]
        rintro ⟨⟨p, hp, z⟩, e2⟩
        by_cases w : p = i
        · subst w; subst z; exact c (hw.mpr e2)
        · exact e ⟨⟨p, by omega, z⟩, e2⟩
theorem sm_drop_dr {g t0 n : Nat} {od aw md kd nb bg tb hd dr : Nat → Int32} {qs Bn : Nat → Nat} (h : sm_Q g t0 n od aw md kd nb bg qs Bn) (hdr : ∀ x, x < 6 → dr x = 0 ∨ dr x = 1) {y : Nat} (hy : y < 8) : px_md n od aw tb dr (nI y) = (mx_dp kd tb y (hd, dr)).2 := by
  funext s
  unfold px_md mx_dp
  rw [px_md_eq h (nI y) dr n (Nat.le_refl n), (mx_dp_eq kd tb y hd dr hy 6 (Nat.le_refl 6)).2]
  obtain ⟨hn, ht0, h1, h2, h3, h4, h5, h6, h7, hg, hcn⟩ := h
  by_cases q : s < 6
  · rw [if_pos q]
    rcases hdr s q with e | e
    · have : decide (dr s = 0) = true := decide_eq_true e
      rw [this, Bool.not_true, Bool.false_or]
      by_cases c : kd s = 1 ∧ tb s = nI y
      · have aw0 : aw s = 0 := by
          rcases h7 s q with z | ⟨-, z, -⟩ | ⟨z, -⟩
          · rw [c.1] at z; exact absurd z (by decide)
          · exact z
          · rw [c.1] at z; exact absurd z (by decide)
        rw [if_pos ⟨(h3 s q).mp (by rw [c.1]; decide), aw0, c.2, e⟩, decide_eq_true c.1, decide_eq_true c.2]; rfl
      · rw [if_neg, e]
        · have : (decide (kd s = 1) && decide (tb s = nI y)) = false := by
            cases z : (decide (kd s = 1) && decide (tb s = nI y)) with
            | false => rfl
            | true => simp only [Bool.and_eq_true, decide_eq_true_eq] at z; exact absurd z c
          rw [this]; rfl
        · rintro ⟨hp, a0, tb0, -⟩
          have k0 := (h3 s q).mpr hp
          rcases h7 s q with z | ⟨z, -⟩ | ⟨-, k, k1, k2, k3, -⟩
          · exact k0 z
          · exact c ⟨z, tb0⟩
          · rw [a0] at k3; exact nI_ne0 (by omega) (by omega) k3.symm
    · rw [if_neg (fun z => by rw [e] at z; exact absurd z.2.2.2 (by decide)), e]; simp [fw_b]
  · rw [if_neg q, if_neg]
    rintro ⟨⟨p, hp, z⟩, -⟩
    have := (h1 p hp).1; omega
