/-! The reference's walk over the waiters goes along the queue. -/
theorem sm_inner {kd bg : Nat → Int32} {Bn : Nat → Nat} {t0 L : Nat} (ht0 : t0 ≤ 1000) (hL : L ≤ 1000) (h5 : ∀ x, x < 6 → bg x = nI (Bn x) ∧ Bn x ≤ t0) : ∀ j, j ≤ 6 →
    (fw_it (mx_wtS kd bg (nI L)) j none = none ∧ ∀ x, x < j → kd x = 0 ∨ Bn x ≤ L) ∨ (∃ x, fw_it (mx_wtS kd bg (nI L)) j none = some x ∧ x < j ∧ kd x ≠ 0 ∧ L < Bn x ∧ ∀ y, y < j → kd y ≠ 0 → L < Bn y → Bn x ≤ Bn y)
  | 0, _ => Or.inl ⟨rfl, fun x h => absurd h (Nat.not_lt_zero _)⟩
  | j + 1, hj => by
    have bj := h5 j (by omega)
    rw [fw_itS]
    have old : kd j = 0 ∨ Bn j ≤ L → mx_wtS kd bg (nI L) j (fw_it (mx_wtS kd bg (nI L)) j none) = fw_it (mx_wtS kd bg (nI L)) j none := by
      intro h
      unfold mx_wtS
      by_cases a : kd j = 0
      · rw [if_pos a]
      · have : Bn j ≤ L := h.resolve_left a
        rw [if_neg a, if_pos (by rw [bj.1]; exact nI_le this (by omega))]
    rcases sm_inner ht0 hL h5 j (by omega) with ⟨e, hn⟩ | ⟨x, e, hx, k1, k2, k3⟩
    · by_cases c : kd j = 0 ∨ Bn j ≤ L
      · rw [old c]
        refine Or.inl ⟨e, fun x hx => ?_⟩
        by_cases q : x = j
        · subst q; exact c
        · exact hn x (by omega)
      · have c1 : ¬ kd j = 0 := fun z => c (Or.inl z)
        have c2 : L < Bn j := Nat.not_le.mp (fun z => c (Or.inr z))
        refine Or.inr ⟨j, ?_, by omega, c1, c2, fun y hy a b => ?_⟩
        · rw [e]; unfold mx_wtS
          rw [if_neg c1, if_neg (by rw [bj.1]; exact nI_ge c2 (by omega))]
        · by_cases q : y = j
          · subst q; exact Nat.le_refl _
          · rcases hn y (by omega) with z | z
            · exact absurd z a
            · omega
    · have bx := h5 x (by omega)
      by_cases c : kd j = 0 ∨ Bn j ≤ L
      · rw [old c]
        refine Or.inr ⟨x, e, by omega, k1, k2, fun y hy a b => ?_⟩
        by_cases q : y = j
        · subst q
          rcases c with z | z
          · exact absurd z a
          · omega
        · exact k3 y (by omega) a b
      · have c1 : ¬ kd j = 0 := fun z => c (Or.inl z)
        have c2 : L < Bn j := Nat.not_le.mp (fun z => c (Or.inr z))
        have st : mx_wtS kd bg (nI L) j (some x) = if bg x ≤ bg j then some x else some j := by
          unfold mx_wtS
          rw [if_neg c1, if_neg (by rw [bj.1]; exact nI_ge c2 (by omega))]
        rw [e, st]
        by_cases d : Bn x ≤ Bn j
        · rw [if_pos (by rw [bx.1, bj.1]; exact nI_le d (by omega))]
          refine Or.inr ⟨x, rfl, by omega, k1, k2, fun y hy a b => ?_⟩
          by_cases q : y = j
          · subst q; exact d
          · exact k3 y (by omega) a b
        · rw [if_neg (by rw [bx.1, bj.1]; exact nI_ge (Nat.not_le.mp d) (by omega))]
          refine Or.inr ⟨j, rfl, by omega, c1, c2, fun y hy a b => ?_⟩
          by_cases q : y = j
          · subst q; exact Nat.le_refl _
          · have := k3 y (by omega) a b; omega
theorem sm_next {g t0 n : Nat} {od aw md kd nb bg : Nat → Int32} {qs Bn : Nat → Nat} (h : sm_Q g t0 n od aw md kd nb bg qs Bn) {L p : Nat} (hL : L ≤ 1000) (hp : ∀ k, k < n → (k < p ↔ Bn (qs k) ≤ L)) :
    fw_it (mx_wtS kd bg (nI L)) 6 none = if p < n then some (qs p) else none := by
  obtain ⟨hn, ht0, h1, h2, h3, h4, h5, h6, h7, hg, hcn⟩ := h
  rcases sm_inner (kd := kd) ht0 hL h5 6 (Nat.le_refl 6) with ⟨e, hno⟩ | ⟨x, e, hx, k1, k2, k3⟩
  · rw [e]
    by_cases c : p < n
    · have q6 := (h1 p c).1
      rcases hno (qs p) q6 with z | z
      · exact absurd z ((h3 _ q6).mpr ⟨p, c, rfl⟩)
      · have := (hp p c).mpr z; omega
    · rw [if_neg c]
  · obtain ⟨k, hk, rfl⟩ := (h3 x hx).mp k1
    have kp : ¬ k < p := fun z => by have := (hp k hk).mp z; omega
    have pn : p < n := by omega
    have q6 := (h1 p pn).1
    have pl : L < Bn (qs p) := Nat.not_le.mp (fun z => by have := (hp p pn).mpr z; omega)
    have := k3 (qs p) q6 ((h3 _ q6).mpr ⟨p, pn, rfl⟩) pl
    have kk : k = p := by
      rcases Nat.lt_trichotomy k p with c | c | c
      · omega
      · exact c
      · have := h4 p k c hk; omega
    rw [e, if_pos pn, kk]
theorem sm_seq {g t0 n : Nat} {od aw md kd nb bg : Nat → Int32} {qs Bn : Nat → Nat} (h : sm_Q g t0 n od aw md kd nb bg qs Bn) : ∀ t, t ≤ n →
    mx_wtT kd bg t = if t = 0 then (0, none) else (nI (Bn (qs (t - 1))), some (qs (t - 1)))
  | 0, _ => rfl
  | t + 1, ht => by
    have h0 := h
    obtain ⟨hn, ht0, h1, h2, h3, h4, h5, h6, h7, hg, hcn⟩ := h
    have e : mx_wtT kd bg (t + 1) = mx_wtO kd bg t (mx_wtT kd bg t) := rfl
    rw [e, sm_seq h0 t (by omega), if_neg (show ¬ t + 1 = 0 by omega)]
    have key : ∃ L : Nat, L ≤ 1000 ∧ (if t = 0 then ((0 : Int32), (none : Option Nat)) else (nI (Bn (qs (t - 1))), some (qs (t - 1)))).1 = nI L ∧ ∀ k, k < n → (k < t ↔ Bn (qs k) ≤ L) := by
      by_cases c : t = 0
      · rw [if_pos c]
        exact ⟨0, by omega, rfl, fun k hk => ⟨fun z => by omega, fun z => by have := h6 k hk; omega⟩⟩
      · rw [if_neg c]
        have q6 := (h1 (t - 1) (by omega)).1
        refine ⟨Bn (qs (t - 1)), by have := (h5 _ q6).2; omega, rfl, fun k hk => ⟨fun z => ?_, fun z => ?_⟩⟩
        · by_cases d : k = t - 1
          · rw [d]; exact Nat.le_refl _
          · have := h4 k (t - 1) (by omega) (by omega); omega
        · rcases Nat.lt_or_ge k t with d | d
          · exact d
          · have := h4 (t - 1) k (by omega) hk; omega
    obtain ⟨L, hL, eL, hp⟩ := key
    unfold mx_wtO
    rw [eL, sm_next h0 hL hp, if_pos (by omega)]
    show (bg (qs t), some (qs t)) = _
    rw [(h5 _ (h1 t (by omega)).1).1]
    rfl
theorem sm_seqE {g t0 n : Nat} {od aw md kd nb bg : Nat → Int32} {qs Bn : Nat → Nat} (h : sm_Q g t0 n od aw md kd nb bg qs Bn) : (mx_wtT kd bg (n + 1)).2 = none := by
  have h0 := h
  obtain ⟨hn, ht0, h1, h2, h3, h4, h5, h6, h7, hg, hcn⟩ := h
  have e : mx_wtT kd bg (n + 1) = mx_wtO kd bg n (mx_wtT kd bg n) := rfl
  rw [e, sm_seq h0 n (Nat.le_refl n)]
  unfold mx_wtO
  by_cases c : n = 0
  · rw [if_pos c]
    show fw_it (mx_wtS kd bg (nI 0)) 6 none = none
    rw [sm_next h0 (p := 0) (by omega) (fun k hk => by omega), if_neg (by omega)]
  · rw [if_neg c]
    have q6 := (h1 (n - 1) (by omega)).1
    show fw_it (mx_wtS kd bg (nI (Bn (qs (n - 1))))) 6 none = none
    rw [sm_next h0 (p := n) (by have := (h5 _ q6).2; omega) (fun k hk => ⟨fun _ => ?_, fun _ => hk⟩), if_neg (by omega)]
    by_cases d : k = n - 1
    · rw [d]; exact Nat.le_refl _
    · have := h4 k (n - 1) (by omega) (by omega); omega
theorem sm_wt {g t0 n : Nat} {od aw md kd nb bg : Nat → Int32} {qs Bn : Nat → Nat} (h : sm_Q g t0 n od aw md kd nb bg qs Bn) {j : Nat} (hj : j < 2 ^ 31) {so : Option Nat} (hR : mx_wtR kd bg (nI j) so) : so = if j < n then some (qs j) else none := by
  have hn := h.1
  obtain ⟨T, hT, e, hc, hs⟩ := hR
  have c1 : ∀ t, t < T → t ≤ j := fun t ht => fw_ngt (hc t ht).1 hj (by omega)
  have hTn : T ≤ n + 1 := by
    rcases Nat.lt_or_ge (n + 1) T with z | z
    · rcases (hc (n + 1) z).2 with y | y
      · omega
      · exact absurd (sm_seqE h) y
    · exact z
  have hT0 : T ≠ 0 := fun z => by
    rcases hs with y | y
    · rw [z] at y; exact absurd y (nI_pos hj)
    · exact y.1 z
  rcases Nat.lt_or_ge n T with z | z
  · have : T = n + 1 := by omega
    rw [this, sm_seqE h] at e
    have := c1 n z
    rw [e, if_neg (by omega)]
  · rw [sm_seq h T z, if_neg hT0] at e
    have e : so = some (qs (T - 1)) := e
    have hjT : j < T := by
      rcases hs with y | y
      · exact fw_gt y hj (by omega)
      · rw [e] at y; exact absurd y.2 (fun q => by cases q)
    have := c1 (T - 1) (by omega)
    have : T - 1 = j := by omega
    rw [e, this, if_pos (by omega)]
theorem sm_wt_neg {kd bg : Nat → Int32} {x : Int32} (hx : x < 0) {so : Option Nat} (hR : mx_wtR kd bg x so) : so = none := by
  obtain ⟨T, hT, e, hc, hs⟩ := hR
  have : T = 0 := by
    rcases Nat.eq_zero_or_pos T with z | z
    · exact z
    · exact absurd hx (hc 0 z).1
  rw [this] at e
  exact e
theorem sm_waiting {g t0 n : Nat} {od aw md kd nb bg : Nat → Int32} {qs Bn : Nat → Nat} (h : sm_Q g t0 n od aw md kd nb bg qs Bn) {x : Int32} {so : Option Nat} (hR : mx_wtR kd bg x so) : px_at n od x = px_ix so := by
  have hn := h.1
  unfold px_at
  by_cases c : x < 0
  · rw [if_pos c, sm_wt_neg c hR]; rfl
  · rw [if_neg c]
    obtain ⟨j, hj, rfl⟩ := nI_of c
    rw [sm_wt h hj hR]
    by_cases d : j < n
    · rw [if_neg (nI_ge d (by omega)), if_pos d, nI_clamp hj, (h.2.2.1 j d).2]; rfl
    · rw [if_pos (nI_le (by omega) hj), if_neg d]; rfl
