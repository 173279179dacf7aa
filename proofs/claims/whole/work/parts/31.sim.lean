/-! What ties the class's words to the reference's: the queue, the numbers, the holdings. -/
def sm_Q (g t0 n : Nat) (od aw md kd nb bg : Nat → Int32) (qs Bn : Nat → Nat) : Prop :=
  n ≤ 6 ∧ t0 ≤ 1000 ∧ (∀ k, k < n → qs k < 6 ∧ od k = nI (qs k)) ∧ (∀ i j, i < n → j < n → qs i = qs j → i = j) ∧ (∀ x, x < 6 → (kd x ≠ 0 ↔ ∃ k, k < n ∧ qs k = x)) ∧
  (∀ i j, i < j → j < n → Bn (qs i) < Bn (qs j)) ∧ (∀ x, x < 6 → bg x = nI (Bn x) ∧ Bn x ≤ t0) ∧ (∀ k, k < n → 1 ≤ Bn (qs k)) ∧
  (∀ x, x < 6 → kd x = 0 ∨ (kd x = 1 ∧ aw x = 0 ∧ ∃ k : Nat, k < 8 ∧ md x = nI (k + 1)) ∨ (kd x = 2 ∧ ∃ k : Nat, 1 ≤ k ∧ k ≤ g ∧ aw x = nI k ∧ nb x = nI k)) ∧
  g < 4000 ∧ n = px_cnt (fun y => !decide (kd y = 0)) 6
def sm_N (g : Nat) (rn ow ru : Nat → Int32) : Prop := g < 4000 ∧ (∀ k, 1 ≤ k → k ≤ g → (ru k = 0 ∧ rn k = -1) ∨ (ru k = 1 ∧ rn k = ow k)) ∧ (∀ k, k < 4001 → ∃ j : Nat, j < 6 ∧ ow k = nI j)
def sm_H (lv hd : Nat → Int32) : Prop := ∀ x y k, x < 6 → y < 8 → k < 8 → hd (72 * x + 9 * y + (k + 1)) = lv (64 * x + 8 * y + k) + 1 ∧ (lv (64 * x + 8 * y + k) = -1 ∨ ∃ z : Nat, z < 8 ∧ lv (64 * x + 8 * y + k) = nI z)
theorem px_fst_none {P : Nat → Bool} : ∀ {n : Nat}, (∀ j, j < n → P j = false) → px_fst P n = none
  | 0, _ => rfl
  | n + 1, h => px_fstS (px_fst_none (fun j hj => h j (by omega))) (h n (by omega))
theorem px_fst_eq {P : Nat → Bool} {n k : Nat} (h : ∀ j, j < k → P j = false) (hk : P k = true) (hn : k < n) : px_fst P n = some k := px_fstT (px_fst_none h) hk hn
theorem sm_nI {a b : Nat} (ha : a < 2 ^ 31) (hb : b < 2 ^ 31) (h : nI a = nI b) : a = b := (nI_eq ha hb).mp h
theorem sm_pl_some {g t0 n : Nat} {od aw md kd nb bg : Nat → Int32} {qs Bn : Nat → Nat} (h : sm_Q g t0 n od aw md kd nb bg qs Bn) {k : Nat} (hk : k < n) : px_pl n od (nI (qs k)) = some k := by
  obtain ⟨hn, -, h1, h2, -⟩ := h
  refine px_fst_eq (fun j hj => ?_) (by simp [(h1 k hk).2]) hk
  refine decide_eq_false (fun e => ?_)
  rw [(h1 j (by omega)).2] at e
  have := h2 j k (by omega) hk (sm_nI (by have := (h1 j (by omega)).1; omega) (by have := (h1 k hk).1; omega) e)
  omega
theorem sm_pl_none {g t0 n : Nat} {od aw md kd nb bg : Nat → Int32} {qs Bn : Nat → Nat} (h : sm_Q g t0 n od aw md kd nb bg qs Bn) {x : Nat} (hx : x < 6) (hk : kd x = 0) : px_pl n od (nI x) = none := by
  obtain ⟨hn, -, h1, h2, h3, -⟩ := h
  refine px_fst_none (fun j hj => decide_eq_false (fun e => ?_))
  rw [(h1 j hj).2] at e
  have := sm_nI (by have := (h1 j hj).1; omega) (by omega) e
  exact (h3 x hx).mpr ⟨j, hj, this⟩ hk
theorem sm_pl_bad {g t0 n : Nat} {od aw md kd nb bg : Nat → Int32} {qs Bn : Nat → Nat} (h : sm_Q g t0 n od aw md kd nb bg qs Bn) {x : Int32} (hx : px_isS x = false) : px_pl n od x = none := by
  obtain ⟨hn, -, h1, -⟩ := h
  refine px_fst_none (fun j hj => decide_eq_false (fun e => ?_))
  rw [(h1 j hj).2] at e
  rw [← e, px_isS_nI _ (h1 j hj).1] at hx
  exact absurd hx (by decide)
theorem sm_pl_iff {g t0 n : Nat} {od aw md kd nb bg : Nat → Int32} {qs Bn : Nat → Nat} (h : sm_Q g t0 n od aw md kd nb bg qs Bn) {x : Nat} (hx : x < 6) : (px_pl n od (nI x)).isSome = true ↔ kd x ≠ 0 := by
  constructor
  · intro a b
    rw [sm_pl_none h hx b] at a; exact absurd a (by decide)
  · intro a
    obtain ⟨k, hk, rfl⟩ := (h.2.2.2.2.1 x hx).mp a
    rw [sm_pl_some h hk]; rfl
theorem sm_sa {lv hd : Nat → Int32} (h : sm_H lv hd) {t y k : Nat} (ht : t < 6) (hy : y < 8) : px_sa lv t y k = mx_ha hd t y k := by
  unfold px_sa mx_ha
  refine px_any_congr (fun i hi => ?_)
  unfold px_saP mx_haP
  obtain ⟨h1, h2⟩ := h t y i ht hy hi
  rw [h1, Bool.and_comm]
  congr 2
  rcases h2 with e | ⟨z, hz, e⟩
  · rw [e]; decide
  · rw [e, nI_1]
    rw [decide_eq_false (px_nm1 z (by omega)), decide_eq_false (nI_nle (by omega) (by omega))]
theorem sm_way {g t0 n : Nat} {od aw tb md dr kd nb bg lv hd : Nat → Int32} {qs Bn : Nat → Nat} (h : sm_Q g t0 n od aw md kd nb bg qs Bn) (hH : sm_H lv hd) {x y k pl ta : Nat} (hx : x < 6) (hy : y < 8) (hpl : pl ≤ n) (hta : ta < 2 ^ 31) (hat : ∀ p, p < n → (p < pl ↔ Bn (qs p) < ta)) (hxp : ∀ p, p < pl → qs p ≠ x) :
    px_way n lv od aw tb md dr x y k pl = mx_way hd kd tb md dr bg x y k (nI ta) := by
  obtain ⟨hn, ht0, h1, h2, h3, h4, h5, h6, h7, hg, hcn⟩ := h
  have hc : ∀ p, p < n → (od p).toNatClampNeg = qs p := fun p hp => by rw [(h1 p hp).2]; exact nI_clamp (by have := (h1 p hp).1; omega)
  have e1 : ∀ t, t < 6 → ∀ acc i, bt (px_wayS lv x y k t acc) i = (bt acc i || (!decide (t = x) && px_sa lv t y k && decide (i = t))) := by
    intro t ht acc i
    unfold px_wayS
    by_cases a : t = x
    · simp [a]
    · cases b : px_sa lv t y k with
      | false => simp [a]
      | true => simp [a, b_or, bx_one (show t < 32 by omega)]
  have e2 : ∀ p, p < n → ∀ acc i, bt (px_eaS od aw tb md dr (nI y) k p acc) i = (bt acc i || (px_wants aw tb dr (qs p) (nI y) && px_cf k (md (qs p)) && decide (i = qs p))) := by
    intro p hp acc i
    unfold px_eaS
    rw [hc p hp, (h1 p hp).2]
    cases b : (px_wants aw tb dr (qs p) (nI y) && px_cf k (md (qs p))) with
    | false => simp
    | true => simp [b_or, bx_one (show qs p < 32 by have := (h1 p hp).1; omega)]
  have e3 : ∀ t, t < 6 → ∀ acc i, bt (mx_wayS hd kd tb md dr bg x y k (nI ta) t acc) i = (bt acc i || (!decide (t = x) && (mx_er kd tb md dr bg y k (nI ta) t || mx_ha hd t y k) && decide (i = t))) := by
    intro t ht acc i
    unfold mx_wayS
    rw [b_or]
    cases b : (!decide (t = x) && (mx_er kd tb md dr bg y k (nI ta) t || mx_ha hd t y k)) with
    | false => simp [bx_0]
    | true => simp [bx_one (show t < 32 by omega)]
  refine bx_ext (fun i => ?_)
  unfold px_way mx_way px_ea
  rw [b_or, bx_fold e1 6 (Nat.le_refl 6), bx_fold e2 (min n pl) (Nat.min_le_left n pl), bx_fold e3 6 (Nat.le_refl 6), bx_0, Bool.false_or, Bool.false_or, Bool.false_or]
  rw [Bool.eq_iff_iff, Bool.or_eq_true, px_any_iff, px_any_iff, px_any_iff]
  constructor
  · rintro (⟨t, ht, e⟩ | ⟨p, hp, e⟩)
    · simp only [Bool.and_eq_true, Bool.not_eq_true', decide_eq_false_iff_not, decide_eq_true_eq] at e
      obtain ⟨⟨a, b⟩, c⟩ := e
      rw [sm_sa hH ht hy] at b
      exact ⟨t, ht, by simp [a, b, c]⟩
    · have hpn : p < n := by omega
      have hpp : p < pl := by omega
      simp only [px_wants, Bool.and_eq_true, decide_eq_true_eq] at e
      obtain ⟨⟨⟨⟨a, b⟩, c⟩, d⟩, f⟩ := e
      obtain ⟨q6, -⟩ := h1 p hpn
      have k1 : kd (qs p) = 1 := by
        rcases h7 (qs p) q6 with z | ⟨z, -⟩ | ⟨-, j, j1, j2, j3, -⟩
        · exact absurd z ((h3 _ q6).mpr ⟨p, hpn, rfl⟩)
        · exact z
        · rw [a] at j3; exact absurd j3.symm (nI_ne0 (by omega) (by omega))
      have l1 : ¬ nI ta ≤ bg (qs p) := by
        rw [(h5 _ q6).1]; exact nI_ge ((hat p hpn).mp hpp) hta
      exact ⟨qs p, q6, by simp [mx_er, hxp p hpp, k1, c, b, d, l1, f]⟩
  · rintro ⟨t, ht, e⟩
    simp only [Bool.and_eq_true, Bool.or_eq_true, Bool.not_eq_true', decide_eq_false_iff_not, decide_eq_true_eq] at e
    obtain ⟨⟨a, b⟩, c⟩ := e
    rcases b with b | b
    · simp only [mx_er, Bool.and_eq_true, Bool.not_eq_true', decide_eq_false_iff_not, decide_eq_true_eq] at b
      obtain ⟨⟨⟨⟨b1, b2⟩, b3⟩, b4⟩, b5⟩ := b
      obtain ⟨p, hp, rfl⟩ := (h3 t ht).mp (by rw [b1]; decide)
      rw [(h5 _ ht).1] at b5
      have hpp := (hat p hp).mpr (fw_nlt b5 hta (by have := (h5 _ ht).2; omega))
      have a0 : aw (qs p) = 0 := by
        rcases h7 (qs p) ht with z | ⟨-, z, -⟩ | ⟨z, -⟩
        · rw [b1] at z; exact absurd z (by decide)
        · exact z
        · rw [b1] at z; exact absurd z (by decide)
      exact Or.inr ⟨p, by omega, by simp [px_wants, a0, b3, b2, b4, c]⟩
    · rw [← sm_sa hH ht hy] at b
      exact Or.inl ⟨t, ht, by simp [a, b, c]⟩
theorem sm_way6 {kd tb md dr bg hd : Nat → Int32} {x y k : Nat} {ta : Int32} {i : Nat} (hi : 6 ≤ i) : bt (mx_way hd kd tb md dr bg x y k ta) i = false := by
  have e3 : ∀ t, t < 6 → ∀ acc i, bt (mx_wayS hd kd tb md dr bg x y k ta t acc) i = (bt acc i || (!decide (t = x) && (mx_er kd tb md dr bg y k ta t || mx_ha hd t y k) && decide (i = t))) := by
    intro t ht acc i
    unfold mx_wayS
    rw [b_or]
    cases b : (!decide (t = x) && (mx_er kd tb md dr bg y k ta t || mx_ha hd t y k)) with
    | false => simp [bx_0]
    | true => simp [bx_one (show t < 32 by omega)]
  unfold mx_way
  rw [bx_fold e3 6 (Nat.le_refl 6), bx_0, Bool.false_or]
  cases e : px_any (fun j => !decide (j = x) && (mx_er kd tb md dr bg y k ta j || mx_ha hd j y k) && decide (i = j)) 6 with
  | false => rfl
  | true =>
    obtain ⟨t, ht, e⟩ := px_any_iff.mp e
    simp only [Bool.and_eq_true, decide_eq_true_eq] at e
    omega
theorem sm_wo6 {g : Nat} {rn ow ru hd kd tb md dr nb bg : Nat → Int32} (hN : sm_N g rn ow ru) (hnb : ∀ x, x < 6 → ∃ k : Nat, k < 4001 ∧ nb x = nI k) {u : Nat} (hu : u < 6) {i : Nat} (hi : 6 ≤ i) : bt (mx_wo ow ru hd kd tb md dr nb bg u) i = false := by
  unfold mx_wo
  split
  · split
    · exact bx_0 i
    · obtain ⟨k, hk, ek⟩ := hnb u hu
      rw [ek, nI_clamp (by omega)]
      obtain ⟨j, hj, ej⟩ := hN.2.2 k hk
      rw [ej, bx_one (by omega)]
      exact decide_eq_false (by omega)
  · split
    · split
      · exact sm_way6 hi
      · exact bx_0 i
    · exact bx_0 i
theorem sm_wo {g t0 n : Nat} {rn ow ru od aw tb md dr kd nb bg lv hd : Nat → Int32} {qs Bn : Nat → Nat} (h : sm_Q g t0 n od aw md kd nb bg qs Bn) (hN : sm_N g rn ow ru) (hH : sm_H lv hd) (htb : ∀ x, x < 6 → ∃ y : Nat, y < 8 ∧ tb x = nI y) {x : Nat} (hx : x < 6) :
    px_wo g n rn lv od aw tb md dr (nI x) = mx_wo ow ru hd kd tb md dr nb bg x := by
  have h0 := h
  obtain ⟨hn, ht0, h1, h2, h3, h4, h5, h6, h7, hg, hcn⟩ := h
  have cl : (nI x).toNatClampNeg = x := nI_clamp (by omega)
  unfold px_wo mx_wo
  rcases h7 x hx with z | ⟨z, z1, k, hk, z2⟩ | ⟨z, k, k1, k2, z1, z2⟩
  · rw [sm_pl_none h0 hx z, z]
    simp only [show ¬ (0 : Int32) = 2 by decide, show ¬ (0 : Int32) = 1 by decide, if_false]
  · obtain ⟨p, hp, rfl⟩ := (h3 x hx).mp (by rw [z]; decide)
    obtain ⟨y, hy, ey⟩ := htb _ hx
    rw [sm_pl_some h0 hp, z, if_neg (show ¬ (1 : Int32) = 2 by decide), if_pos rfl]
    simp only [cl, if_pos z1, ey, z2, nI_clamp (show y < 2 ^ 31 by omega), nI_clamp (show k + 1 < 2 ^ 31 by omega)]
    rw [(h5 _ hx).1]
    rw [sm_way h0 hH hx hy (by omega) (by have := (h5 _ hx).2; omega) (ta := Bn (qs p)) (fun p' hp' => ?_) (fun p' hp' e => ?_)]
    · constructor
      · intro q; exact h4 p' p q hp
      · intro q
        rcases Nat.lt_trichotomy p' p with c | c | c
        · exact c
        · rw [c] at q; omega
        · have := h4 p p' c hp'; omega
    · have := h2 p' p (by omega) hp e; omega
  · obtain ⟨p, hp, rfl⟩ := (h3 x hx).mp (by rw [z]; decide)
    rw [sm_pl_some h0 hp, z, if_pos rfl]
    have hk0 : ¬ aw (qs p) = 0 := by rw [z1]; exact nI_ne0 (by omega) (by have := hN.1; omega)
    simp only [cl, if_neg hk0]
    rw [z1, z2, px_run_nI (by have := hN.1; omega) k1 k2, nI_clamp (by have := hN.1; omega)]
    rcases hN.2.1 k k1 k2 with ⟨a, b⟩ | ⟨a, b⟩
    · rw [if_pos b, if_pos a]
    · obtain ⟨j, hj, ej⟩ := hN.2.2 k (by have := hN.1; omega)
      rw [a, if_neg (show ¬ (1 : Int32) = 0 by decide), if_neg (by rw [b, ej]; exact px_nm1 j (by omega)), b]
/-- rings, over the two sides' states -/
theorem sm_ring {g t0 n : Nat} {rn ow ru od aw tb md dr kd nb bg lv hd : Nat → Int32} {qs Bn : Nat → Nat} (h : sm_Q g t0 n od aw md kd nb bg qs Bn) (hN : sm_N g rn ow ru) (hH : sm_H lv hd) (htb : ∀ x, x < 6 → ∃ y : Nat, y < 8 ∧ tb x = nI y) (hnb : ∀ x, x < 6 → ∃ k : Nat, k < 4001 ∧ nb x = nI k) {x : Nat} (hx : x < 6) (r0 : Int32) :
    px_cr (px_wo g n rn lv od aw tb md dr) (nI x) r0 = mx_ld (mx_wo ow ru hd kd tb md dr nb bg) r0 (nI x) :=
  rg_ring (fun u hu i hi => sm_wo6 hN hnb hu hi) (fun t ht => sm_wo h hN hH htb ht) hx r0
