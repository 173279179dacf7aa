/-! Pure words of the reference's walks over locks and waiters. -/
def mx_lkW (ow lr lb lh : Nat → Int32) (n : Nat) (row st : Int32) (i : Nat) (a : Int32 × Bool × Int32) : Int32 × Bool × Int32 :=
  if lr i = row then
    (if (!decide (ow (lb i).toNatClampNeg = ow n) && (decide (st = 2) || decide (lh i = 2))) && (decide (a.1 = 0) || !decide (a.1 ≤ lb i)) then lb i else a.1,
     a.2.1 || (decide (ow (lb i).toNatClampNeg = ow n) && !decide (lh i < st)),
     if lb i = nI n then nI i else a.2.2)
  else a
def mx_lrS (ru lr lb lh : Nat → Int32) (row last : Int32) (i : Nat) (a : Int32 × Int32) : Int32 × Int32 :=
  if (decide (lr i = row) && !decide (ru (lb i).toNatClampNeg = 0) && !decide (lb i ≤ last)) && (decide (a.1 = 0) || !decide (a.1 ≤ lb i)) then (lb i, lh i) else a
def mx_lrO (ru lr lb lh : Nat → Int32) (q : Nat) (row : Int32) (_ : Nat) (a : Int32 × Int32) : Int32 × Int32 := fw_it (mx_lrS ru lr lb lh row a.1) q (0, a.2)
def mx_lrT (ru lr lb lh : Nat → Int32) (q : Nat) (row : Int32) (T : Nat) : Int32 × Int32 := fw_it (mx_lrO ru lr lb lh q row) T (0, 0)
/-- the reference's locker: T turns were made -/
def mx_lrR (ru lr lb lh : Nat → Int32) (q : Nat) (row k : Int32) (T : Nat) : Prop :=
  T ≤ 4001 ∧ (∀ t, t < T → ¬ k < nI t ∧ (t = 0 ∨ ¬ (mx_lrT ru lr lb lh q row t).1 ≤ 0)) ∧ (k < nI T ∨ (T ≠ 0 ∧ (mx_lrT ru lr lb lh q row T).1 ≤ 0))
def mx_mu (t lst : Nat) : Nat := if t = 0 then 5002 else if lst = 0 then 0 else 4002 - lst
theorem mx_mu_lt {t lst fnd : Nat} (hc : t = 0 ∨ 0 < lst) (hl : lst ≤ 4000) (hf : fnd = 0 ∨ (lst < fnd ∧ fnd ≤ 4000)) : mx_mu (t + 1) fnd < mx_mu t lst := by
  simp only [mx_mu]
  have h1 : ¬ t + 1 = 0 := by omega
  rw [if_neg h1]
  by_cases a : t = 0
  · rw [if_pos a]
    split <;> omega
  · rw [if_neg a]
    have : ¬ lst = 0 := by omega
    rw [if_neg this]
    split <;> omega
def mx_wtS (kd bg : Nat → Int32) (last : Int32) (j : Nat) (so : Option Nat) : Option Nat :=
  if kd j = 0 then so else if bg j ≤ last then so else match so with
    | none => some j
    | some x => if bg x ≤ bg j then some x else some j
def mx_wtO (kd bg : Nat → Int32) (_ : Nat) (a : Int32 × Option Nat) : Int32 × Option Nat :=
  (match fw_it (mx_wtS kd bg a.1) 6 none with | none => a.1 | some x => bg x, fw_it (mx_wtS kd bg a.1) 6 none)
def mx_wtT (kd bg : Nat → Int32) (T : Nat) : Int32 × Option Nat := fw_it (mx_wtO kd bg) T (0, none)
/-- the reference's waiting: T turns were made, the answer is so -/
def mx_wtR (kd bg : Nat → Int32) (k : Int32) (so : Option Nat) : Prop :=
  ∃ T, T ≤ 1001 ∧ so = (mx_wtT kd bg T).2 ∧ (∀ t, t < T → ¬ k < nI t ∧ (t = 0 ∨ (mx_wtT kd bg t).2 ≠ none)) ∧ (k < nI T ∨ (T ≠ 0 ∧ so = none))
def mx_mw (t lst : Nat) (so : Option Nat) : Nat := if t = 0 then 1002 else match so with | none => 0 | some _ => 1001 - lst
theorem mx_mw_n {t lst l2 : Nat} {so : Option Nat} (hl : lst ≤ 1000) (hc : t = 0 ∨ so ≠ none) : mx_mw (t + 1) l2 none < mx_mw t lst so := by
  simp only [mx_mw]
  rw [if_neg (by omega : ¬ t + 1 = 0)]
  by_cases a : t = 0
  · rw [if_pos a]; omega
  · rw [if_neg a]
    cases so with
    | none => rcases hc with h | h
              · exact absurd h a
              · exact absurd rfl h
    | some x => show 0 < 1001 - lst; omega
theorem mx_mw_s {t lst l2 x : Nat} {so : Option Nat} (hl : lst ≤ 1000) (hc : t = 0 ∨ so ≠ none) (h : lst < l2) : mx_mw (t + 1) l2 (some x) < mx_mw t lst so := by
  simp only [mx_mw]
  rw [if_neg (by omega : ¬ t + 1 = 0)]
  by_cases a : t = 0
  · rw [if_pos a]; omega
  · rw [if_neg a]
    cases so with
    | none => rcases hc with h | h
              · exact absurd h a
              · exact absurd rfl h
    | some y => show 1001 - l2 < 1001 - lst; omega
theorem mx_ixn {so : Option Nat} (hs : ∀ x, so = some x → x < 6) (h : px_ix so < 0) : so = none := by
  cases so with
  | none => rfl
  | some x => exact absurd h (nI_pos (by have := hs x rfl; omega))
theorem mx_ixs {so : Option Nat} (h : ¬ px_ix so < 0) : ∃ x, so = some x := by
  cases so with
  | none => exact absurd (by decide) h
  | some x => exact ⟨x, rfl⟩
theorem mx_ixg {so : Option Nat} (h : 0 ≤ px_ix so) : ∃ x, so = some x := by
  cases so with
  | none => exact absurd h (by decide)
  | some x => exact ⟨x, rfl⟩
theorem mx_ixl {so : Option Nat} (hs : ∀ x, so = some x → x < 6) (h : ¬ 0 ≤ px_ix so) : so = none := by
  cases so with
  | none => rfl
  | some x => exact absurd (nI_pos' (by have := hs x rfl; omega)) h
theorem mx_sh_inv {ru : Nat → Int32} {lr lb lh : Nat → Int32} {Good : Int32 → Prop} : ∀ {n : Nat}, (∀ i, i < n → Good (lb i)) → (mx_sh ru n (lr, lb, lh)).1 ≤ n ∧ (∀ i, i < (mx_sh ru n (lr, lb, lh)).1 → Good ((mx_sh ru n (lr, lb, lh)).2.2.1 i)) ∧ (∀ j, n ≤ j → (mx_sh ru n (lr, lb, lh)).2.2.1 j = lb j)
  | 0, _ => ⟨Nat.le_refl 0, fun i hi => absurd hi (Nat.not_lt_zero _), fun _ _ => rfl⟩
  | n + 1, hg => by
    obtain ⟨h1, h2, h3⟩ := mx_sh_inv (ru := ru) (lr := lr) (lb := lb) (lh := lh) (Good := Good) (n := n) (fun i hi => hg i (by omega))
    have e : mx_sh ru (n + 1) (lr, lb, lh) = mx_shS ru n (mx_sh ru n (lr, lb, lh)) := rfl
    rw [e]
    generalize mx_sh ru n (lr, lb, lh) = st at h1 h2 h3 ⊢
    simp only [mx_shS]
    split
    · exact ⟨by omega, h2, fun j hj => h3 j (by omega)⟩
    · refine ⟨by show st.1 + 1 ≤ n + 1; omega, fun i hi => ?_, fun j hj => ?_⟩
      · show Good (upd st.2.2.1 st.1 (st.2.2.1 n) i)
        have hi : i < st.1 + 1 := hi
        by_cases q : i = st.1
        · subst q; rw [pk_us, h3 n (Nat.le_refl n)]; exact hg n (by omega)
        · rw [pk_un q]; exact h2 i (by omega)
      · show upd st.2.2.1 st.1 (st.2.2.1 n) j = lb j
        rw [pk_un (by omega)]; exact h3 j (by omega)
