/-! Bits (the first rows are of kit/laws/BITS.to-paste), masks of sessions, closures. -/
def bt (x : Int32) (i : Nat) : Bool := x.toBitVec.getLsbD i
theorem b_ext {x y : Int32} (h : ∀ i, i < 32 → bt x i = bt y i) : x = y := Int32.toBitVec_inj.mp (BitVec.eq_of_getLsbD_eq (fun i hi => h i hi))
theorem b_or (x y : Int32) (i : Nat) : bt (x ||| y) i = (bt x i || bt y i) := by unfold bt; rw [Int32.toBitVec_or, BitVec.getLsbD_or]
theorem b_and (x y : Int32) (i : Nat) : bt (x &&& y) i = (bt x i && bt y i) := by unfold bt; rw [Int32.toBitVec_and, BitVec.getLsbD_and]
theorem b_big {x : Int32} {i : Nat} (h : 32 ≤ i) : bt x i = false := BitVec.getLsbD_of_ge _ _ h
theorem s_l : ∀ n, n < 32 → ((nI n &&& 31).toBitVec.smod 32).toNat = n := by decide +kernel
theorem b_sshr (n : Nat) (hn : n < 32) (x : Int32) {i : Nat} (hi : i < 32) : bt (x >>> (nI n &&& 31)) i = if n + i < 32 then bt x (n + i) else bt x 31 := by
  unfold bt
  rw [Int32.toBitVec_shiftRight]
  show (x.toBitVec.sshiftRight ((nI n &&& 31).toBitVec.smod 32).toNat).getLsbD i = _
  rw [s_l n hn, BitVec.getLsbD_sshiftRight, BitVec.msb_eq_getLsbD_last]
  simp [hi]
theorem bx_0 (i : Nat) : bt 0 i = false := by
  rcases Nat.lt_or_ge i 32 with h | h
  · exact (by decide +kernel : ∀ i, i < 32 → bt 0 i = false) i h
  · exact b_big h
theorem bx_1 (i : Nat) : bt 1 i = decide (i = 0) := by
  rcases Nat.lt_or_ge i 32 with h | h
  · exact (by decide +kernel : ∀ i, i < 32 → bt 1 i = decide (i = 0)) i h
  · rw [b_big h, decide_eq_false (by omega)]
theorem bx_one0 : ∀ t, t < 32 → ∀ i, i < 32 → bt (1 <<< (nI t &&& 31)) i = decide (i = t) := by decide +kernel
theorem bx_one {t : Nat} (ht : t < 32) (i : Nat) : bt (1 <<< (nI t &&& 31)) i = decide (i = t) := by
  rcases Nat.lt_or_ge i 32 with h | h
  · exact bx_one0 t ht i h
  · rw [b_big h, decide_eq_false (by omega)]
theorem bx_ext {x y : Int32} (h : ∀ i, bt x i = bt y i) : x = y := b_ext (fun i _ => h i)
theorem bx_has (b : Int32) {t : Nat} (ht : t < 32) : px_has b (nI t) = bt b t := by
  unfold px_has
  cases hb : bt b t with
  | false =>
    have : b &&& (1 <<< (nI t &&& 31)) = 0 := bx_ext (fun i => by
      rw [b_and, bx_one ht, bx_0]
      by_cases e : i = t
      · subst e; rw [hb]; rfl
      · rw [decide_eq_false e, Bool.and_false])
    simp [this]
  | true =>
    have : ¬ b &&& (1 <<< (nI t &&& 31)) = 0 := fun e => by
      have h1 : bt (b &&& (1 <<< (nI t &&& 31))) t = bt 0 t := by rw [e]
      rw [b_and, bx_one ht, bx_0, hb, decide_eq_true rfl] at h1
      exact absurd h1 (by decide)
    simp [this]
theorem bx_bit (r : Int32) {t : Nat} (ht : t < 31) : mx_bit r (nI t) = bt r t := by
  unfold mx_bit
  cases hb : bt r t with
  | false =>
    have : ¬ (r >>> (nI t &&& 31)) &&& 1 = 1 := fun e => by
      have h1 : bt ((r >>> (nI t &&& 31)) &&& 1) 0 = bt 1 0 := by rw [e]
      rw [b_and, b_sshr t (by omega) r (by decide), bx_1, if_pos (by omega), Nat.add_zero, hb] at h1
      exact absurd h1 (by decide)
    simp [this]
  | true =>
    have : (r >>> (nI t &&& 31)) &&& 1 = 1 := b_ext (fun i hi => by
      rw [b_and, bx_1]
      by_cases e : i = 0
      · subst e
        rw [b_sshr t (by omega) r hi, if_pos (by omega), Nat.add_zero, hb]; rfl
      · rw [decide_eq_false e, Bool.and_false])
    simp [this]
theorem px_any_iff {P : Nat → Bool} : ∀ {n : Nat}, px_any P n = true ↔ ∃ i, i < n ∧ P i = true
  | 0 => ⟨fun h => by simp [px_any] at h, fun ⟨i, h, _⟩ => absurd h (Nat.not_lt_zero _)⟩
  | n + 1 => by
    rw [px_any, Bool.or_eq_true, px_any_iff]
    constructor
    · rintro (⟨i, h1, h2⟩ | h)
      · exact ⟨i, by omega, h2⟩
      · exact ⟨n, by omega, h⟩
    · rintro ⟨i, h1, h2⟩
      by_cases e : i = n
      · subst e; exact Or.inr h2
      · exact Or.inl ⟨i, by omega, h2⟩
theorem px_any_no {P : Nat → Bool} {n : Nat} (h : px_any P n = false) {i : Nat} (hi : i < n) : P i = false := by
  cases e : P i with
  | false => rfl
  | true => rw [px_any_iff.mpr ⟨i, hi, e⟩] at h; exact absurd h (by decide)
theorem px_any_congr {P Q : Nat → Bool} {n : Nat} (h : ∀ i, i < n → P i = Q i) : px_any P n = px_any Q n := by
  induction n with
  | zero => rfl
  | succ n ih => rw [px_any, px_any, ih (fun i hi => h i (by omega)), h n (by omega)]
/-- bits of a walk that puts bits in -/
theorem bx_fold {S : Nat → Int32 → Int32} {D : Nat → Nat → Bool} {N : Nat} (hS : ∀ j, j < N → ∀ acc i, bt (S j acc) i = (bt acc i || D j i)) : ∀ n, n ≤ N → ∀ acc i, bt (fw_it S n acc) i = (bt acc i || px_any (fun j => D j i) n)
  | 0, _, acc, i => by rw [fw_it0, px_any, Bool.or_false]
  | n + 1, h, acc, i => by rw [fw_itS, hS n (by omega), bx_fold hS n (by omega), px_any, Bool.or_assoc]
theorem px_cnt_mono {P Q : Nat → Bool} : ∀ {n : Nat}, (∀ i, i < n → P i = true → Q i = true) → px_cnt P n ≤ px_cnt Q n
  | 0, _ => Nat.le_refl 0
  | n + 1, h => by
    have ih := px_cnt_mono (P := P) (Q := Q) (n := n) (fun i hi => h i (by omega))
    have hn := h n (by omega)
    simp only [px_cnt]
    cases hp : P n with
    | false => simp; split <;> omega
    | true => simp [hn hp]; omega
theorem px_cnt_lt {P Q : Nat → Bool} : ∀ {n : Nat}, (∀ i, i < n → P i = true → Q i = true) → ∀ {v : Nat}, v < n → P v = false → Q v = true → px_cnt P n < px_cnt Q n
  | 0, _, v, hv, _, _ => absurd hv (Nat.not_lt_zero _)
  | n + 1, h, v, hv, h1, h2 => by
    simp only [px_cnt]
    by_cases e : v = n
    · subst e
      have := px_cnt_mono (P := P) (Q := Q) (n := v) (fun i hi => h i (by omega))
      simp [h1, h2]; omega
    · have ih := px_cnt_lt (P := P) (Q := Q) (n := n) (fun i hi => h i (by omega)) (v := v) (by omega) h1 h2
      have hn := h n (by omega)
      cases hp : P n with
      | false => simp; split <;> omega
      | true => simp [hn hp]; omega
theorem px_cnt_pos {P : Nat → Bool} {n v : Nat} (hv : v < n) (h : P v = true) : 1 ≤ px_cnt P n := by
  have h0 : ∀ n, px_cnt (fun _ => false) n = 0 := fun n => by
    induction n with
    | zero => rfl
    | succ n ih => simp [px_cnt, ih]
  have := px_cnt_lt (P := fun _ => false) (Q := P) (n := n) (fun i _ h => by cases h) hv rfl h
  rw [h0] at this; omega
/-- what holds of one round: it keeps, it takes in what its members wait on, and nothing else -/
def rg_ok (w : Nat → Int32) (f : Int32 → Int32) : Prop :=
  ∀ r, (∀ i, bt r i = true → bt (f r) i = true) ∧ (∀ u, u < 6 → bt r u = true → ∀ v, bt (w u) v = true → bt (f r) v = true) ∧
    (∀ S : Nat → Prop, (∀ i, bt r i = true → S i) → (∀ u v, u < 6 → S u → bt (w u) v = true → S v) → ∀ i, bt (f r) i = true → S i)
def rg_cl (w : Nat → Int32) (r : Int32) : Prop := ∀ u v, u < 6 → bt r u = true → bt (w u) v = true → bt r v = true
theorem rg_keep {w : Nat → Int32} {f : Int32 → Int32} (hf : rg_ok w f) {r : Int32} (hc : rg_cl w r) : f r = r := bx_ext (fun i => by
  obtain ⟨h1, -, h3⟩ := hf r
  cases e : bt r i with
  | true => exact h1 i e
  | false =>
    cases e2 : bt (f r) i with
    | false => rfl
    | true =>
      have := h3 (fun i => bt r i = true) (fun i h => h) (fun u v hu h1 h2 => hc u v hu h1 h2) i e2
      rw [e] at this; exact absurd this (by decide))
theorem rg_grow {w : Nat → Int32} (hw : ∀ u, u < 6 → ∀ i, 6 ≤ i → bt (w u) i = false) {F : Nat → Int32 → Int32} (hF : ∀ k, rg_ok w (F k)) (r0 : Int32) : ∀ k, rg_cl w (fw_it F k r0) ∨ k + 1 ≤ px_cnt (bt (fw_it F k r0)) 6
  | 0 => by
    by_cases h : rg_cl w (fw_it F 0 r0)
    · exact Or.inl h
    · refine Or.inr ?_
      obtain ⟨u, hu⟩ : ∃ u, u < 6 ∧ bt r0 u = true := Classical.byContradiction (fun q => h (fun u v h1 h2 _ => absurd ⟨u, h1, h2⟩ q))
      exact px_cnt_pos hu.1 hu.2
  | k + 1 => by
    rcases rg_grow hw hF r0 k with h | h
    · refine Or.inl ?_
      rw [fw_itS, rg_keep (hF k) h]; exact h
    · by_cases hc : rg_cl w (fw_it F k r0)
      · refine Or.inl ?_
        rw [fw_itS, rg_keep (hF k) hc]; exact hc
      · refine Or.inr ?_
        rw [fw_itS]
        obtain ⟨h1, h2, -⟩ := hF k (fw_it F k r0)
        have : ∃ u v, u < 6 ∧ bt (fw_it F k r0) u = true ∧ bt (w u) v = true ∧ bt (fw_it F k r0) v = false := Classical.byContradiction (fun q => hc (fun u v a b c => by
          cases e : bt (fw_it F k r0) v with
          | true => rfl
          | false => exact absurd ⟨u, v, a, b, c, e⟩ q))
        obtain ⟨u, v, a, b, c, d⟩ := this
        have hv : v < 6 := by
          rcases Nat.lt_or_ge v 6 with h | h
          · exact h
          · rw [hw u a v h] at c; exact absurd c (by decide)
        have := px_cnt_lt (P := bt (fw_it F k r0)) (Q := bt (F k (fw_it F k r0))) (n := 6) (fun i _ h => h1 i h) hv d (h2 u a b v c)
        omega
theorem rg_closed {w : Nat → Int32} (hw : ∀ u, u < 6 → ∀ i, 6 ≤ i → bt (w u) i = false) {F : Nat → Int32 → Int32} (hF : ∀ k, rg_ok w (F k)) (r0 : Int32) : rg_cl w (fw_it F 6 r0) := by
  rcases rg_grow hw hF r0 6 with h | h
  · exact h
  · have := px_cnt_le (P := bt (fw_it F 6 r0)) 6
    omega
theorem rg_has {w : Nat → Int32} {F : Nat → Int32 → Int32} (hF : ∀ k, rg_ok w (F k)) (r0 : Int32) : ∀ k i, bt r0 i = true → bt (fw_it F k r0) i = true
  | 0, _, h => h
  | k + 1, i, h => by rw [fw_itS]; exact (hF k _).1 i (rg_has hF r0 k i h)
theorem rg_in {w : Nat → Int32} {F : Nat → Int32 → Int32} (hF : ∀ k, rg_ok w (F k)) (r0 : Int32) {S : Nat → Prop} (h0 : ∀ i, bt r0 i = true → S i) (hc : ∀ u v, u < 6 → S u → bt (w u) v = true → S v) : ∀ k i, bt (fw_it F k r0) i = true → S i
  | 0, i, h => h0 i h
  | k + 1, i, h => by
    rw [fw_itS] at h
    exact (hF k _).2.2 S (rg_in hF r0 h0 hc k) hc i h
/-- two ways of going round come to the same -/
theorem rg_same {w : Nat → Int32} (hw : ∀ u, u < 6 → ∀ i, 6 ≤ i → bt (w u) i = false) {F E : Nat → Int32 → Int32} (hF : ∀ k, rg_ok w (F k)) (hE : ∀ k, rg_ok w (E k)) (r0 : Int32) : fw_it F 6 r0 = fw_it E 6 r0 := bx_ext (fun i => by
  have a := rg_in hF r0 (S := fun i => bt (fw_it E 6 r0) i = true) (rg_has hE r0 6) (fun u v hu h1 h2 => rg_closed hw hE r0 u v hu h1 h2) 6 i
  have b := rg_in hE r0 (S := fun i => bt (fw_it F 6 r0) i = true) (rg_has hF r0 6) (fun u v hu h1 h2 => rg_closed hw hF r0 u v hu h1 h2) 6 i
  cases e : bt (fw_it F 6 r0) i with
  | true => exact (a e).symm
  | false =>
    cases e2 : bt (fw_it E 6 r0) i with
    | false => rfl
    | true => rw [b e2] at e; exact absurd e (by decide))
/-- the class's round -/
theorem rg_crO {w : Nat → Int32} {w1 : Int32 → Int32} (h1 : ∀ t, t < 6 → w1 (nI t) = w t) (k : Nat) : rg_ok w (px_crO w1 k) := by
  intro r
  have step : ∀ t, t < 6 → ∀ r i, bt (px_crS w1 t r) i = (bt r i || (bt r t && bt (w t) i)) := by
    intro t ht r i
    unfold px_crS
    rw [bx_has r (by omega), h1 t ht]
    cases e : bt r t with
    | false => simp
    | true => simp [b_or]
  have grow : ∀ n, n ≤ 6 → ∀ i, bt r i = true → bt (fw_it (px_crS w1) n r) i = true := by
    intro n
    induction n with
    | zero => exact fun _ i h => h
    | succ n ih =>
      intro hn i h
      rw [fw_itS, step n (by omega), ih (by omega) i h, Bool.true_or]
  have grow2 : ∀ n m, n ≤ m → m ≤ 6 → ∀ i, bt (fw_it (px_crS w1) n r) i = true → bt (fw_it (px_crS w1) m r) i = true := by
    intro n m
    induction m with
    | zero => intro h _ i hi; rw [Nat.le_zero.mp h] at hi; exact hi
    | succ m ih =>
      intro h hm i hi
      by_cases e : n = m + 1
      · rw [e] at hi; exact hi
      · rw [fw_itS, step m (by omega), ih (by omega) (by omega) i hi, Bool.true_or]
  refine ⟨fun i h => grow 6 (Nat.le_refl 6) i h, fun u hu hr v hv => ?_, fun S h0 hc => ?_⟩
  · refine grow2 (u + 1) 6 (by omega) (Nat.le_refl 6) v ?_
    rw [fw_itS, step u hu, grow u (by omega) u hr, hv]
    simp
  · have : ∀ n, n ≤ 6 → ∀ i, bt (fw_it (px_crS w1) n r) i = true → S i := by
      intro n
      induction n with
      | zero => exact fun _ i h => h0 i h
      | succ n ih =>
        intro hn i h
        rw [fw_itS, step n (by omega), Bool.or_eq_true, Bool.and_eq_true] at h
        rcases h with h | ⟨h2, h3⟩
        · exact ih (by omega) i h
        · exact hc n i (by omega) (ih (by omega) n h2) h3
    exact fun i h => this 6 (Nat.le_refl 6) i h
/-- the reference's round -/
theorem rg_ldO (w : Nat → Int32) (k : Nat) : rg_ok w (mx_ldO w k) := by
  intro r
  have step : ∀ t, t < 6 → ∀ acc i, bt (mx_ldS w r t acc) i = (bt acc i || (bt r t && bt (w t) i)) := by
    intro t ht acc i
    unfold mx_ldS
    rw [b_or, bx_bit r (by omega)]
    cases e : bt r t with
    | false => simp [bx_0]
    | true => simp
  have key := bx_fold (N := 6) (D := fun t i => bt r t && bt (w t) i) step 6 (Nat.le_refl 6) r
  refine ⟨fun i h => ?_, fun u hu hr v hv => ?_, fun S h0 hc i h => ?_⟩
  · show bt (fw_it (mx_ldS w r) 6 r) i = true
    rw [key, h, Bool.true_or]
  · show bt (fw_it (mx_ldS w r) 6 r) v = true
    rw [key, px_any_iff.mpr ⟨u, hu, by simp [hr, hv]⟩, Bool.or_true]
  · have h : bt (fw_it (mx_ldS w r) 6 r) i = true := h
    rw [key, Bool.or_eq_true] at h
    rcases h with h | h
    · exact h0 i h
    · obtain ⟨u, hu, h2⟩ := px_any_iff.mp h
      simp only [Bool.and_eq_true] at h2
      exact hc u i hu (h0 u h2.1) h2.2
/-- rings: the class and the reference say the same -/
theorem rg_ring {w : Nat → Int32} {w1 : Int32 → Int32} (hw : ∀ u, u < 6 → ∀ i, 6 ≤ i → bt (w u) i = false) (h1 : ∀ t, t < 6 → w1 (nI t) = w t) {x : Nat} (hx : x < 6) (r0 : Int32) : px_cr w1 (nI x) r0 = mx_ld w r0 (nI x) := by
  unfold px_cr mx_ld
  rw [bx_has _ (by omega), bx_bit _ (by omega), rg_same hw (rg_crO h1) (rg_ldO w) r0]
