/-! Pure words: what the class's methods answer. -/
def px_has (b p : Int32) : Bool := !decide (b &&& (1 <<< (p &&& 31)) = 0)
def px_isS (x : Int32) : Bool := !decide (x < 0) && !decide (6 ≤ x)
def px_isT (x : Int32) : Bool := !decide (x < 0) && !decide (8 ≤ x)
def px_isR (x : Int32) : Bool := !decide (x < 0) && !decide (1200 ≤ x)
def px_isM (x : Int32) : Bool := !decide (x < 1) && !decide (8 < x)
theorem px_rng {x : Int32} {n : Nat} (hn : n < 2 ^ 31) (h0 : ¬ x < 0) (h1 : ¬ nI n ≤ x) : ∃ j : Nat, j < n ∧ x = nI j := by
  rcases pk_ix x hn with h | h | h
  · exact absurd h h0
  · exact absurd h h1
  · exact h
theorem px_isS_of {x : Int32} (h : px_isS x = true) : ∃ j : Nat, j < 6 ∧ x = nI j := by
  simp only [px_isS, Bool.and_eq_true, Bool.not_eq_true', decide_eq_false_iff_not] at h
  exact px_rng (by decide) h.1 h.2
theorem px_isT_of {x : Int32} (h : px_isT x = true) : ∃ j : Nat, j < 8 ∧ x = nI j := by
  simp only [px_isT, Bool.and_eq_true, Bool.not_eq_true', decide_eq_false_iff_not] at h
  exact px_rng (by decide) h.1 h.2
theorem px_isR_of {x : Int32} (h : px_isR x = true) : ∃ j : Nat, j < 1200 ∧ x = nI j := by
  simp only [px_isR, Bool.and_eq_true, Bool.not_eq_true', decide_eq_false_iff_not] at h
  exact px_rng (by decide) h.1 h.2
theorem px_isM_of {x : Int32} (h : px_isM x = true) : ∃ j : Nat, j < 8 ∧ x = nI (j + 1) := by
  simp only [px_isM, Bool.and_eq_true, Bool.not_eq_true', decide_eq_false_iff_not] at h
  obtain ⟨h1, h2⟩ := h
  have h0 : ¬ x < 0 := fun q => h1 (Int32.lt_trans q (by decide))
  have h3 : ¬ nI 9 ≤ x := fun q => h2 (Int32.lt_of_lt_of_le (by decide) q)
  obtain ⟨j, hj, rfl⟩ := px_rng (n := 9) (by decide) h0 h3
  cases j with
  | zero => exact absurd (by decide) h1
  | succ j => exact ⟨j, by omega, rfl⟩
def px_any (P : Nat → Bool) : Nat → Bool
  | 0 => false
  | n + 1 => px_any P n || P n
theorem px_anyT {P : Nat → Bool} {i : Nat} (h : P i = true) : ∀ {n : Nat}, i < n → px_any P n = true
  | 0, hi => absurd hi (Nat.not_lt_zero _)
  | n + 1, hi => by
    by_cases e : i = n
    · subst e; simp [px_any, h]
    · have := px_anyT h (n := n) (by omega)
      simp [px_any, this]
theorem px_anyS {P : Nat → Bool} {i : Nat} (h : px_any P i = false) (h2 : P i = false) : px_any P (i + 1) = false := by simp [px_any, h, h2]
theorem px_b8 : ∀ z, z < 128 → (nI z).toInt8.toInt32 = nI z := by decide +kernel
theorem px_n8 : ∀ z, z < 128 → vp_nar .byte (nI z) = nI z := by decide +kernel
/-- the class's conflict of modes a and b -/
def px_cf (a : Nat) (b : Int32) : Bool := px_has (fw_cfI a) b
/-- a session stands against a mode (its place m + 1 in the table) -/
def px_saP (lv : Nat → Int32) (x y m : Nat) (k : Nat) : Bool := px_cf m (nI (k + 1)) && !decide (lv (64 * x + 8 * y + k) = -1)
def px_sa (lv : Nat → Int32) (x y m : Nat) : Bool := px_any (px_saP lv x y m) 8
def px_repS (x : Nat) (lo lev : Int32) (i : Nat) (f : Nat → Int32) : Nat → Int32 := if f (64 * x + i) < lo then f else upd f (64 * x + i) lev
def px_rep (x : Nat) (lo lev : Int32) (f : Nat → Int32) : Nat → Int32 := fw_it (px_repS x lo lev) 64 f
def px_fgS (y x : Nat) (k : Nat) (f : Nat → Int32) : Nat → Int32 := upd f (64 * x + 8 * y + k) (-1)
def px_fgO (y x : Nat) (f : Nat → Int32) : Nat → Int32 := fw_it (px_fgS y x) 8 f
def px_fg (y : Nat) (f : Nat → Int32) : Nat → Int32 := fw_it (px_fgO y) 6 f
def px_was (g : Nat) (x : Int32) : Bool := !decide (x < 1) && !decide (nI g < x)
theorem px_was_of {g : Nat} {x : Int32} (hg : g < 2 ^ 31 - 1) (h : px_was g x = true) : ∃ k : Nat, 1 ≤ k ∧ k ≤ g ∧ x = nI k := by
  simp only [px_was, Bool.and_eq_true, Bool.not_eq_true', decide_eq_false_iff_not] at h
  obtain ⟨h1, h2⟩ := h
  have h0 : ¬ x < 0 := fun q => h1 (Int32.lt_trans q (by decide))
  obtain ⟨j, hj, rfl⟩ := nI_of h0
  refine ⟨j, ?_, ?_, rfl⟩
  · rcases Nat.eq_zero_or_pos j with h | h
    · subst h; exact absurd (by decide) h1
    · exact h
  · exact Nat.not_lt.mp fun q => h2 ((nI_ltI (by omega) hj).mpr q)
theorem px_was_nI {g k : Nat} (hg : g < 2 ^ 31) (h1 : 1 ≤ k) (h2 : k ≤ g) : px_was g (nI k) = true := by
  have a1 : ¬ nI k < 1 := fun q => by
    have := (nI_ltI (a := k) (b := 1) (by omega) (by decide)).mp q
    omega
  have a2 : ¬ nI g < nI k := fun q => by
    have := (nI_ltI (a := g) (b := k) (by omega) (by omega)).mp q
    omega
  simp [px_was, a1, a2]
def px_run (g : Nat) (rn : Nat → Int32) (x : Int32) : Int32 := if px_was g x then rn x.toNatClampNeg else -1
theorem px_run_nI {g k : Nat} {rn : Nat → Int32} (hg : g < 2 ^ 31) (h1 : 1 ≤ k) (h2 : k ≤ g) : px_run g rn (nI k) = rn k := by
  simp only [px_run, px_was_nI hg h1 h2, if_true]
  rw [nI_clamp (by omega)]
theorem px_cellE (x y k : Nat) : nI x * 64 + nI y * 8 + nI (k + 1) - 1 = nI (64 * x + 8 * y + k) := by
  rw [show (64 : Int32) = nI 64 from rfl, show (8 : Int32) = nI 8 from rfl, pk_mul, pk_mul, nI_add, nI_add, show x * 64 + y * 8 + (k + 1) = (64 * x + 8 * y + k) + 1 by omega, nI_pred]
theorem px_e64 (x : Nat) : nI (64 * x) + 64 = nI (64 * x + 64) := nI_add (64 * x) 64
