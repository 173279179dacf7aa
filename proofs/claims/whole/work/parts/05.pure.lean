/-! Pure words of the queue and of the locks on rows. -/
def px_fst (P : Nat → Bool) : Nat → Option Nat
  | 0 => none
  | n + 1 => match px_fst P n with
    | some k => some k
    | none => if P n then some n else none
theorem px_fstS {P : Nat → Bool} {i : Nat} (h : px_fst P i = none) (h2 : P i = false) : px_fst P (i + 1) = none := by simp [px_fst, h, h2]
theorem px_fstT {P : Nat → Bool} {i : Nat} (h : px_fst P i = none) (h2 : P i = true) : ∀ {n : Nat}, i < n → px_fst P n = some i
  | 0, hi => absurd hi (Nat.not_lt_zero _)
  | n + 1, hi => by
    by_cases e : i = n
    · subst e; simp [px_fst, h, h2]
    · have := px_fstT h h2 (n := n) (by omega)
      simp [px_fst, this]
theorem px_fst_lt {P : Nat → Bool} {k : Nat} : ∀ {n : Nat}, px_fst P n = some k → k < n
  | 0, h => by simp [px_fst] at h
  | n + 1, h => by
    cases e : px_fst P n with
    | some j =>
      have := px_fst_lt e
      simp [px_fst, e] at h
      omega
    | none =>
      simp [px_fst, e] at h
      omega
def px_ix (o : Option Nat) : Int32 := match o with
  | some k => nI k
  | none => -1
def px_pl (n : Nat) (od : Nat → Int32) (x : Int32) : Option Nat := px_fst (fun k => decide (od k = x)) n
theorem px_nm1 : ∀ k, k < 8 → ¬ nI k = -1 := by decide +kernel
theorem px_ix_none {n : Nat} {P : Nat → Bool} (hn : n ≤ 6) (h : px_ix (px_fst P n) = -1) : px_fst P n = none := by
  cases e : px_fst P n with
  | none => rfl
  | some k =>
    rw [e] at h
    exact absurd h (px_nm1 k (by have := px_fst_lt e; omega))
theorem px_ix_some {n : Nat} {P : Nat → Bool} (h : ¬ px_ix (px_fst P n) = -1) : ∃ k, px_fst P n = some k := by
  cases e : px_fst P n with
  | none => rw [e] at h; exact absurd rfl h
  | some k => exact ⟨k, rfl⟩
def px_at (n : Nat) (od : Nat → Int32) (x : Int32) : Int32 := if x < 0 then -1 else if nI n ≤ x then -1 else od x.toNatClampNeg
def px_rmS (x : Int32) (i : Nat) (st : Nat × (Nat → Int32)) : Nat × (Nat → Int32) := if st.2 i = x then st else (st.1 + 1, upd st.2 st.1 (st.2 i))
def px_rm (n : Nat) (od : Nat → Int32) (x : Int32) : Nat × (Nat → Int32) := fw_it (px_rmS x) n (0, od)
def px_wants (aw tb dr : Nat → Int32) (x : Nat) (t : Int32) : Bool := decide (aw x = 0) && decide (tb x = t) && decide (dr x = 0)
def px_eaS (od aw tb md dr : Nat → Int32) (t : Int32) (k : Nat) (i : Nat) (acc : Int32) : Int32 :=
  if px_wants aw tb dr (od i).toNatClampNeg t && px_cf k (md (od i).toNatClampNeg) then acc ||| (1 <<< (od i &&& 31)) else acc
def px_ea (n : Nat) (od aw tb md dr : Nat → Int32) (t : Int32) (k pl : Nat) : Int32 := fw_it (px_eaS od aw tb md dr t k) (min n pl) 0
def px_mdS (od aw tb : Nat → Int32) (t : Int32) (i : Nat) (dr : Nat → Int32) : Nat → Int32 :=
  if px_wants aw tb dr (od i).toNatClampNeg t then upd dr (od i).toNatClampNeg 1 else dr
def px_md (n : Nat) (od aw tb dr : Nat → Int32) (t : Int32) : Nat → Int32 := fw_it (px_mdS od aw tb t) n dr
def px_low (ql : Nat → Int32) (x z : Nat) : Nat → Int32 := if ql x < nI (z + 1) then ql else upd ql x (nI z)
theorem px_nz {v : Int32} (h : v = 0 ∨ v = 1) : narrow .boolean (.int v) = .int v := by
  rcases h with rfl | rfl <;> decide
/-- locks on rows: four arrays -/
abbrev px_Q4 : Type := (Nat → Int32) × (Nat → Int32) × (Nat → Int32) × (Nat → Int32)
def px_sfP (ss rw sg : Nat → Int32) (x1 x2 x3 : Int32) (i : Nat) : Bool := decide (rw i = x2) && decide (ss i = x1) && !decide (sg i < x3)
def px_lcP (ss rw sg : Nat → Int32) (x1 x2 x3 : Int32) (i : Nat) : Bool := decide (rw i = x2) && !decide (ss i = x1) && (decide (x3 = 2) || decide (sg i = 2))
def px_lc (n : Nat) (lk ss rw sg : Nat → Int32) (x1 x2 x3 : Int32) : Int32 := match px_fst (px_lcP ss rw sg x1 x2 x3) n with
  | some i => lk i
  | none => -1
def px_cnt (P : Nat → Bool) : Nat → Nat
  | 0 => 0
  | n + 1 => if P n then px_cnt P n + 1 else px_cnt P n
theorem px_cnt_le {P : Nat → Bool} : ∀ n : Nat, px_cnt P n ≤ n
  | 0 => Nat.le_refl 0
  | n + 1 => by
    have := px_cnt_le (P := P) n
    simp only [px_cnt]
    split <;> omega
def px_rowP (rw : Nat → Int32) (x : Int32) (i : Nat) : Bool := decide (rw i = x)
def px_snP (rw : Nat → Int32) (x1 x2 : Int32) (i : Nat) : Bool := decide (rw i = x1) && decide (nI (px_cnt (px_rowP rw x1) i) = x2)
def px_sn (n : Nat) (lk rw sg : Nat → Int32) (x1 x2 : Int32) : Int32 := match px_fst (px_snP rw x1 x2) n with
  | some i => if sg i = 2 then lk i else -lk i
  | none => 0
def px_cp (i k : Nat) (q : px_Q4) : px_Q4 := (upd q.1 k (q.1 i), upd q.2.1 k (q.2.1 i), upd q.2.2.1 k (q.2.2.1 i), upd q.2.2.2 k (q.2.2.2 i))
def px_fwS (sel : px_Q4 → Nat → Int32) (x : Int32) (i : Nat) (st : Nat × px_Q4) : Nat × px_Q4 := if sel st.2 i = x then st else (st.1 + 1, px_cp i st.1 st.2)
def px_fw (sel : px_Q4 → Nat → Int32) (x : Int32) (n : Nat) (q : px_Q4) : Nat × px_Q4 := fw_it (px_fwS sel x) n (0, q)
def px_shS (n : Nat) (t : Nat) (q : px_Q4) : px_Q4 := px_cp (n - t - 1) (n - t) q
def px_sh (n p : Nat) (q : px_Q4) : px_Q4 := fw_it (px_shS n) (n - p) q
def px_put (p : Nat) (x1 x2 x3 x4 : Int32) (q : px_Q4) : px_Q4 := (upd q.1 p x1, upd q.2.1 p x2, upd q.2.2.1 p x3, upd q.2.2.2 p x4)
def px_foundAt (lk rw : Nat → Int32) (x1 x3 : Int32) (i : Nat) : Prop := lk i = x1 ∧ rw i = x3 ∧ ∀ j, j < i → ¬ x1 < lk j
def px_placeAt (n : Nat) (lk rw : Nat → Int32) (x1 x3 : Int32) (p : Nat) : Prop := (∀ j, j < p → ¬ x1 < lk j ∧ ¬ (lk j = x1 ∧ rw j = x3)) ∧ (p = n ∨ x1 < lk p)
