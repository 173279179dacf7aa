/-! Pure words of the desk. -/
theorem px_isS_nI : ∀ x, x < 6 → px_isS (nI x) = true := by decide +kernel
theorem px_isT_nI : ∀ x, x < 8 → px_isT (nI x) = true := by decide +kernel
theorem px_isM_nI : ∀ x, x < 8 → px_isM (nI (x + 1)) = true := by decide +kernel
theorem px_fst_sat {P : Nat → Bool} {k : Nat} : ∀ {n : Nat}, px_fst P n = some k → P k = true
  | 0, h => by simp [px_fst] at h
  | n + 1, h => by
    cases e : px_fst P n with
    | some j =>
      have := px_fst_sat e
      simp [px_fst, e] at h
      rw [← h]; exact this
    | none =>
      simp [px_fst, e] at h
      rw [← h.2]; exact h.1
theorem px_fst_no {P : Nat → Bool} : ∀ {n : Nat}, px_fst P n = none → ∀ j, j < n → P j = false
  | 0, _, j, hj => absurd hj (Nat.not_lt_zero _)
  | n + 1, h, j, hj => by
    cases e : px_fst P n with
    | some i => simp [px_fst, e] at h
    | none =>
      simp [px_fst, e] at h
      by_cases q : j = n
      · subst q; exact h
      · exact px_fst_no e j (by omega)
theorem px_fst_min {P : Nat → Bool} {k : Nat} : ∀ {n : Nat}, px_fst P n = some k → ∀ j, j < k → P j = false
  | 0, h => by simp [px_fst] at h
  | n + 1, h => by
    intro j hj
    cases e : px_fst P n with
    | some i =>
      simp [px_fst, e] at h
      subst h
      exact px_fst_min e j hj
    | none =>
      simp [px_fst, e] at h
      obtain ⟨h1, rfl⟩ := h
      exact px_fst_no e j hj
def px_I (g n : Nat) (od aw tb md ql dr : Nat → Int32) : Prop :=
  g < 4000 ∧ n ≤ 6 ∧ (∀ k, k < n → ∃ j : Nat, j < 6 ∧ od k = nI j) ∧ (∀ x, x < 6 → ∃ y : Nat, y < 8 ∧ tb x = nI y) ∧ (∀ x, x < 6 → ∃ k : Nat, k < 9 ∧ md x = nI k) ∧ (∀ x, x < 6 → dr x = 0 ∨ dr x = 1) ∧ (∀ x, x < 6 → ∃ z : Nat, z < 8 ∧ ql x = nI z) ∧ (∀ k x, k < n → x < 6 → od k = nI x → aw x = 0 → ∃ j : Nat, j < 8 ∧ md x = nI (j + 1))
def px_wayS (lv : Nat → Int32) (x y k : Nat) (t : Nat) (acc : Int32) : Int32 := if decide (t = x) then acc else if px_sa lv t y k then acc ||| (1 <<< (nI t &&& 31)) else acc
def px_way (n : Nat) (lv od aw tb md dr : Nat → Int32) (x y k pl : Nat) : Int32 := fw_it (px_wayS lv x y k) 6 0 ||| px_ea n od aw tb md dr (nI y) k pl
def px_wo (g n : Nat) (rn lv od aw tb md dr : Nat → Int32) (x1 : Int32) : Int32 := match px_pl n od x1 with
  | none => 0
  | some p =>
    if aw x1.toNatClampNeg = 0 then
      if dr x1.toNatClampNeg = 0 then px_way n lv od aw tb md dr x1.toNatClampNeg (tb x1.toNatClampNeg).toNatClampNeg (md x1.toNatClampNeg).toNatClampNeg p else 0
    else if px_run g rn (aw x1.toNatClampNeg) = -1 then 0 else 1 <<< (px_run g rn (aw x1.toNatClampNeg) &&& 31)
def px_crS (w : Int32 → Int32) (t : Nat) (r : Int32) : Int32 := if px_has r (nI t) then r ||| w (nI t) else r
def px_crO (w : Int32 → Int32) (_ : Nat) (r : Int32) : Int32 := fw_it (px_crS w) 6 r
def px_cr (w : Int32 → Int32) (x1 first : Int32) : Bool := px_has (fw_it (px_crO w) 6 first) x1
