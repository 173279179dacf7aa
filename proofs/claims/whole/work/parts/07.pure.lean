/-! Pure words of the reference. -/
def fw_agI : Nat → Int32
  | 0 => 0
  | 1 => 128
  | 2 => 192
  | 3 => 240
  | 4 => 248
  | 5 => 236
  | 6 => 252
  | 7 => 254
  | _ => 255
theorem mx_cfE : ∀ k, k < 9 → ∀ b, b < 9 → decide ((fw_agI k >>> ((nI b - 1) &&& 31)) &&& 1 = 1) = px_cf k (nI b) := by decide +kernel
def mx_in (x lo hi : Int32) : Bool := !decide (x < lo) && !decide (hi < x)
theorem mx_le_iff {a x : Int32} {n : Nat} (hn : n < 2 ^ 31 - 1) (ha : a = nI n) : a < x ↔ nI (n + 1) ≤ x := by
  subst ha
  rw [Int32.lt_iff_toInt_lt, Int32.le_iff_toInt_le, nI_toInt (by omega), nI_toInt (by omega)]
  omega
theorem mx_inS (x : Int32) : mx_in x 0 5 = px_isS x := by
  have h := mx_le_iff (a := 5) (x := x) (n := 5) (by decide) rfl
  have h2 : (5 < x) = (6 ≤ x) := propext h
  simp only [mx_in, px_isS, h2]
theorem mx_inT (x : Int32) : mx_in x 0 7 = px_isT x := by
  have h := mx_le_iff (a := 7) (x := x) (n := 7) (by decide) rfl
  have h2 : (7 < x) = (8 ≤ x) := propext h
  simp only [mx_in, px_isT, h2]
theorem mx_inR (x : Int32) : mx_in x 0 1199 = px_isR x := by
  have h := mx_le_iff (a := 1199) (x := x) (n := 1199) (by decide) rfl
  have h2 : (1199 < x) = (1200 ≤ x) := propext h
  simp only [mx_in, px_isR, h2]
def mx_run (g : Nat) (ru : Nat → Int32) (x : Int32) : Bool := px_was g x && !decide (ru x.toNatClampNeg = 0)
theorem mx_run_nI {g k : Nat} {ru : Nat → Int32} (hg : g < 2 ^ 31) (h1 : 1 ≤ k) (h2 : k ≤ g) : mx_run g ru (nI k) = !decide (ru k = 0) := by
  rw [mx_run, px_was_nI hg h1 h2, nI_clamp (by omega), Bool.true_and]
theorem mx_ix (x y k : Nat) : 72 * nI x + 9 * nI y + nI k = nI (72 * x + 9 * y + k) := by
  rw [show (72 : Int32) = nI 72 from rfl, show (9 : Int32) = nI 9 from rfl, pk_mul, pk_mul, nI_add, nI_add]
theorem mx_72 (x : Nat) : 72 * nI x = nI (72 * x) := by
  rw [show (72 : Int32) = nI 72 from rfl, pk_mul]
theorem mx_7272 (x : Nat) : 72 * nI x + 72 = nI (72 * x + 72) := by
  rw [mx_72, show (72 : Int32) = nI 72 from rfl, nI_add]
def mx_I (g t0 : Nat) (ag ow tb md lv dr nb bg : Nat → Int32) : Prop :=
  g < 4000 ∧ t0 ≤ 1000 ∧ (∀ j, j < 9 → ag j = fw_agI j) ∧ (∀ k, k < 4001 → ∃ j : Nat, j < 6 ∧ ow k = nI j) ∧ (∀ x, x < 6 → ∃ y : Nat, y < 8 ∧ tb x = nI y) ∧ (∀ x, x < 6 → ∃ k : Nat, k < 9 ∧ md x = nI k) ∧ (∀ x, x < 6 → dr x = 0 ∨ dr x = 1) ∧ (∀ x, x < 6 → ∃ z : Nat, z < 8 ∧ lv x = nI z) ∧ (∀ x, x < 6 → ∃ k : Nat, k < 4001 ∧ nb x = nI k) ∧ (∀ x, x < 6 → ∃ b : Nat, b ≤ t0 ∧ bg x = nI b)
def mx_haP (hd : Nat → Int32) (t y k : Nat) (i : Nat) : Bool := !decide (hd (72 * t + 9 * y + (i + 1)) ≤ 0) && px_cf k (nI (i + 1))
def mx_ha (hd : Nat → Int32) (t y k : Nat) : Bool := px_any (mx_haP hd t y k) 8
def mx_er (kd tb md dr bg : Nat → Int32) (y k : Nat) (at_ : Int32) (t : Nat) : Bool := decide (kd t = 1) && decide (dr t = 0) && decide (tb t = nI y) && px_cf k (md t) && !decide (at_ ≤ bg t)
def mx_wayS (hd kd tb md dr bg : Nat → Int32) (x y k : Nat) (at_ : Int32) (t : Nat) (acc : Int32) : Int32 := acc ||| (if !decide (t = x) && (mx_er kd tb md dr bg y k at_ t || mx_ha hd t y k) then 1 <<< (nI t &&& 31) else 0)
def mx_way (hd kd tb md dr bg : Nat → Int32) (x y k : Nat) (at_ : Int32) : Int32 := fw_it (mx_wayS hd kd tb md dr bg x y k at_) 6 0
def mx_wo (ow ru hd kd tb md dr nb bg : Nat → Int32) (x : Nat) : Int32 :=
  if kd x = 2 then (if ru (nb x).toNatClampNeg = 0 then 0 else 1 <<< (ow (nb x).toNatClampNeg &&& 31))
  else if kd x = 1 then (if dr x = 0 then mx_way hd kd tb md dr bg x (tb x).toNatClampNeg (md x).toNatClampNeg (bg x) else 0) else 0
def mx_bit (r t : Int32) : Bool := decide ((r >>> (t &&& 31)) &&& 1 = 1)
def mx_ldS (w : Nat → Int32) (r : Int32) (t : Nat) (more : Int32) : Int32 := more ||| (if mx_bit r (nI t) then w t else 0)
def mx_ldO (w : Nat → Int32) (_ : Nat) (r : Int32) : Int32 := fw_it (mx_ldS w r) 6 r
def mx_ld (w : Nat → Int32) (from_ : Int32) (s : Int32) : Bool := mx_bit (fw_it (mx_ldO w) 6 from_) s
abbrev mx_Q3 : Type := (Nat → Int32) × (Nat → Int32) × (Nat → Int32)
def mx_cp (i k : Nat) (q : mx_Q3) : mx_Q3 := (upd q.1 k (q.1 i), upd q.2.1 k (q.2.1 i), upd q.2.2 k (q.2.2 i))
def mx_shS (ru : Nat → Int32) (i : Nat) (st : Nat × mx_Q3) : Nat × mx_Q3 := if ru (st.2.2.1 i).toNatClampNeg = 0 then st else (st.1 + 1, mx_cp i st.1 st.2)
def mx_sh (ru : Nat → Int32) (n : Nat) (q : mx_Q3) : Nat × mx_Q3 := fw_it (mx_shS ru) n (0, q)
def mx_clS (x : Int32) (i : Nat) (st : Nat × mx_Q3) : Nat × mx_Q3 := if st.2.1 i = x then st else (st.1 + 1, mx_cp i st.1 st.2)
def mx_cl (x : Int32) (n : Nat) (q : mx_Q3) : Nat × mx_Q3 := fw_it (mx_clS x) n (0, q)
/-- the walk over the locks: least in conflict, whether it has it, its own place -/
def mx_lkS (ow lr lb lh : Nat → Int32) (n : Nat) (row st : Int32) (i : Nat) (a : Int32 × Bool × Int32) : Int32 × Bool × Int32 :=
  if lr i = row then
    (if (!decide (ow (lb i).toNatClampNeg = ow n) && (decide (st = 2) || decide (lh i = 2))) && (decide (a.1 = 0) || decide (lb i < a.1)) then lb i else a.1,
     a.2.1 || (decide (ow (lb i).toNatClampNeg = ow n) && !decide (lh i < st)),
     if lb i = nI n then nI i else a.2.2)
  else a
def mx_endS (x : Nat) (lo to : Int32) (i : Nat) (f : Nat → Int32) : Nat → Int32 := upd f (72 * x + i) (if f (72 * x + i) ≤ lo then f (72 * x + i) else to)
def mx_end (x : Nat) (lo to : Int32) (f : Nat → Int32) : Nat → Int32 := fw_it (mx_endS x lo to) 72 f
def mx_dpI (y s : Nat) (i : Nat) (f : Nat → Int32) : Nat → Int32 := upd f (72 * s + 9 * y + (i + 1)) 0
def mx_dpS (kd tb : Nat → Int32) (y : Nat) (s : Nat) (a : (Nat → Int32) × (Nat → Int32)) : (Nat → Int32) × (Nat → Int32) :=
  (fw_it (mx_dpI y s) 8 a.1, upd a.2 s (fw_b (!decide (a.2 s = 0) || (decide (kd s = 1) && decide (tb s = nI y)))))
def mx_dp (kd tb : Nat → Int32) (y : Nat) (a : (Nat → Int32) × (Nat → Int32)) : (Nat → Int32) × (Nat → Int32) := fw_it (mx_dpS kd tb y) 6 a
