/-! The class and the reference, call by call. -/
theorem KC.mono {l : Launch} {y : MethodName} {wsy : List Cond} {rm : Room} {G : va_G} {tys : List (ClassId × FieldType)} {tc : Nat} {av : List Value} {ws : va_W} {post post' : Option Value → va_W → Prop} (h : KC l y wsy rm G tys tc av ws post) (hp : ∀ v w', post v w' → post' v w') : KC l y wsy rm G tys tc av ws post' := by
  intro sz p e ha hc hk s m args below hf happ hP hK
  obtain ⟨n, o, h1, h2, h3, ⟨⟨v, w', a1, a2, a3, a4⟩, a5⟩, hL⟩ := h sz p e ha hc hk s m args below hf happ hP hK
  exact ⟨n, o, h1, h2, h3, ⟨⟨v, w', a1, hp v w' a2, a3, a4⟩, a5⟩, hL⟩
abbrev CS : Type := Nat × Nat × Nat × (Nat → Int32) × (Nat → Int32) × (Nat → Int32) × (Nat → Int32) × (Nat → Int32) × (Nat → Int32) × (Nat → Int32) × (Nat → Int32) × (Nat → Int32) × (Nat → Int32) × (Nat → Int32) × (Nat → Int32)
abbrev MS : Type := Nat × Nat × Nat × (Nat → Int32) × (Nat → Int32) × (Nat → Int32) × (Nat → Int32) × (Nat → Int32) × (Nat → Int32) × (Nat → Int32) × (Nat → Int32) × (Nat → Int32) × (Nat → Int32) × (Nat → Int32) × (Nat → Int32) × (Nat → Int32) × (Nat → Int32)
def wS (a : Nat → Nat) (cB cI cZ : ClassId) (u : CS) : va_W := match u with
  | (g, r, n, rn, lv, lk, ss, rw, sg, od, aw, tb, md, ql, dr) => wd a cB cI cZ (nI g) rn lv (nI r) lk ss rw sg (nI n) od aw tb md ql dr
def wM (a : Nat → Nat) (cB cI cZ : ClassId) (v : MS) : va_W := match v with
  | (g, t0, q, ag, ow, ru, hd, kd, tb, md, lv, dr, nb, bg, lr, lb, lh) => wm a cB cI cZ ag (nI g) ow ru hd kd tb md lv dr nb bg (nI t0) (nI q) lr lb lh
def sm_R (ag tb md dr ql nb : Nat → Int32) : Prop := (∀ j, j < 9 → ag j = fw_agI j) ∧ (∀ x, x < 6 → ∃ y : Nat, y < 8 ∧ tb x = nI y) ∧ (∀ x, x < 6 → ∃ k : Nat, k < 9 ∧ md x = nI k) ∧ (∀ x, x < 6 → dr x = 0 ∨ dr x = 1) ∧ (∀ x, x < 6 → ∃ z : Nat, z < 8 ∧ ql x = nI z) ∧ (∀ x, x < 6 → ∃ k : Nat, k < 4001 ∧ nb x = nI k)
def sm_S (cnt : Nat) (u : CS) (v : MS) : Prop := match u, v with
  | (g, r, n, rn, lv, lk, ss, rw, sg, od, aw, tb, md, ql, dr), (g', t0, q, ag, ow, ru, hd, kd, tb', md', lv', dr', nb, bg, lr, lb, lh) =>
    (g' = g ∧ tb' = tb ∧ md' = md ∧ lv' = ql ∧ dr' = dr) ∧ (g ≤ cnt ∧ r ≤ cnt ∧ q ≤ cnt ∧ t0 ≤ cnt ∧ cnt ≤ 512) ∧ sm_R ag tb md dr ql nb ∧
    ∃ qs Bn : Nat → Nat, sm_Q g t0 n od aw md kd nb bg qs Bn ∧ sm_N g rn ow ru ∧ sm_H lv hd ∧ sm_L g r q rn ru lk ss rw sg lr lb lh
theorem sm_px {g t0 n : Nat} {od aw md kd nb bg tb dr ql ag : Nat → Int32} {qs Bn : Nat → Nat} (h : sm_Q g t0 n od aw md kd nb bg qs Bn) (hR : sm_R ag tb md dr ql nb) : px_I g n od aw tb md ql dr := by
  obtain ⟨hn, ht0, h1, h2, h3, h4, h5, h6, h7, hg, hcn⟩ := h
  obtain ⟨-, r2, r3, r4, r5, -⟩ := hR
  refine ⟨hg, hn, fun k hk => ⟨qs k, (h1 k hk).1, (h1 k hk).2⟩, r2, r3, r4, r5, fun k x hk hx e a => ?_⟩
  rw [(h1 k hk).2] at e
  have e := sm_nI (by have := (h1 k hk).1; omega) (by omega) e
  rcases h7 x hx with z | ⟨-, -, z⟩ | ⟨-, j, j1, j2, j3, -⟩
  · exact absurd z ((h3 x hx).mpr ⟨k, hk, e⟩)
  · exact z
  · rw [a] at j3; exact absurd j3.symm (nI_ne0 (by omega) (by omega))
theorem sm_mx {g t0 n : Nat} {od aw md kd nb bg tb dr ql ag rn ow ru : Nat → Int32} {qs Bn : Nat → Nat} (h : sm_Q g t0 n od aw md kd nb bg qs Bn) (hN : sm_N g rn ow ru) (hR : sm_R ag tb md dr ql nb) : mx_I g t0 ag ow tb md ql dr nb bg := by
  obtain ⟨hn, ht0, h1, h2, h3, h4, h5, h6, h7, hg, hcn⟩ := h
  obtain ⟨r1, r2, r3, r4, r5, r6⟩ := hR
  exact ⟨hg, ht0, r1, hN.2.2, r2, r3, r4, r5, r6, fun x hx => ⟨Bn x, (h5 x hx).2, (h5 x hx).1⟩⟩
def stp (l : Launch) (G : va_G) (cB cI cZ : ClassId) (tc : Nat) (a b : Nat → Nat) (cnt : Nat) (u : CS) (v : MS) (yc : MethodName) (wsc : List Cond) (rmc : Room) (ym : MethodName) (wsm : List Cond) (rmm : Room) (As : List Value) : Prop :=
  ∃ NC : CS → Int32 → Prop, KC l yc wsc rmc G [(cB, .byte), (cI, .int), (cZ, .boolean)] tc (.ref (a 0) :: As) (wS a cB cI cZ u) (fun o w' => ∃ (z : Int32) (u' : CS), o = some (.int z) ∧ w' = wS a cB cI cZ u' ∧ NC u' z) ∧
    KC l ym wsm rmm G [(cB, .byte), (cI, .int), (cZ, .boolean)] tc (.ref (b 0) :: As) (wM b cB cI cZ v) (fun o w' => ∃ (z : Int32) (v' : MS), o = some (.int z) ∧ w' = wM b cB cI cZ v' ∧ ∀ u' z', NC u' z' → z' = z ∧ sm_S (cnt + 1) u' v')

set_option maxHeartbeats 400000 in
theorem st_number (l : Launch) (G : va_G) (cB cI cZ : ClassId) (tc : Nat) (a b : Nat → Nat) {cnt : Nat} {u : CS} {v : MS} (hS : sm_S cnt u v) (hc : cnt < 512) (x1 : Int32) : stp l G cB cI cZ tc a b cnt u v yX4_number wsX4_number rmX4_number yX5_number wsX5_number rmX5_number [.int x1] := by
  obtain ⟨g0, r, n, rn, lv, lk, ss, rw, sg, od, aw, tb0, md0, ql0, dr0⟩ := u
  obtain ⟨g, t0, q, ag, ow, ru, hd, kd, tb, md, ql, dr, nb, bg, lr, lb, lh⟩ := v
  obtain ⟨⟨rfl, rfl, rfl, rfl, rfl⟩, ⟨b1, b2, b3, b4, b5⟩, hR, qs, Bn, hQ, hN, hH, hL⟩ := hS
  have hI := sm_px hQ hR
  have hJ := sm_mx hQ hN hR
  have hn6 : n ≤ 6 := hQ.1
  have keep : sm_S (cnt + 1) ((g, r, n, rn, lv, lk, ss, rw, sg, od, aw, tb, md, ql, dr) : CS) ((g, t0, q, ag, ow, ru, hd, kd, tb, md, ql, dr, nb, bg, lr, lb, lh) : MS) := ⟨⟨rfl, rfl, rfl, rfl, rfl⟩, ⟨by omega, by omega, by omega, by omega, by omega⟩, hR, qs, Bn, hQ, hN, hH, hL⟩
  have hlb : ∀ i, i < q → ∃ k : Nat, k < 4001 ∧ lb i = nI k := fun i hi => by obtain ⟨k, k1, k2, k3, -⟩ := hL.2.2.2.1 i hi; exact ⟨k, by omega, k3⟩
  by_cases h : px_isS x1 = true
  · obtain ⟨x, hx6, rfl⟩ := px_isS_of h
    have hN' : sm_N (g + 1) (upd rn (g + 1) (nI x)) (upd ow (g + 1) (nI x)) (upd ru (g + 1) 1) := by
      refine ⟨by omega, fun k k1 k2 => ?_, fun k hk => ?_⟩
      · by_cases e : k = g + 1
        · subst e; rw [pk_us, pk_us, pk_us]; exact Or.inr ⟨rfl, rfl⟩
        · rw [pk_un e, pk_un e, pk_un e]; exact hN.2.1 k k1 (by omega)
      · by_cases e : k = g + 1
        · subst e; rw [pk_us]; exact ⟨x, hx6, rfl⟩
        · rw [pk_un e]; exact hN.2.2 k hk
    refine ⟨fun u' zz => u' = (g + 1, r, n, upd rn (g + 1) (nI x), lv, lk, ss, rw, sg, od, aw, tb, md, ql, dr) ∧ zz = nI (g + 1), (c_number_ok l G cB cI cZ tc a rn lv lk ss rw sg od aw tb md ql dr g r n x (by omega) hx6).mono (fun o w' h => ⟨_, (g + 1, r, n, upd rn (g + 1) (nI x), lv, lk, ss, rw, sg, od, aw, tb, md, ql, dr), h.1, h.2, rfl, rfl⟩), (m_number_ok l G cB cI cZ tc b ag ow ru hd kd tb md ql dr nb bg lr lb lh g t0 q x (by omega) hx6).mono (fun o w' h => ⟨_, (g + 1, t0, q, ag, upd ow (g + 1) (nI x), upd ru (g + 1) 1, hd, kd, tb, md, ql, dr, nb, bg, lr, lb, lh), h.1, h.2, fun u' z' e => ⟨e.2, by rw [e.1]; exact ⟨⟨rfl, rfl, rfl, rfl, rfl⟩, ⟨by omega, by omega, by omega, by omega, by omega⟩, hR, qs, Bn, sm_Q_g hQ (by omega), hN', hH, sm_L_number (by omega) hL (nI x)⟩⟩⟩)⟩
  · have h : px_isS x1 = false := by simpa using h
    exact ⟨fun u' zz => u' = (g, r, n, rn, lv, lk, ss, rw, sg, od, aw, tb, md, ql, dr) ∧ zz = -1, (c_number_no l G cB cI cZ tc a rn lv lk ss rw sg od aw tb md ql dr g r n x1 h).mono (fun o w' h => ⟨_, (g, r, n, rn, lv, lk, ss, rw, sg, od, aw, tb, md, ql, dr), h.1, h.2, rfl, rfl⟩), (m_number_no l G cB cI cZ tc b ag ow ru hd kd tb md ql dr nb bg lr lb lh g t0 q x1 h).mono (fun o w' h => ⟨_, (g, t0, q, ag, ow, ru, hd, kd, tb, md, ql, dr, nb, bg, lr, lb, lh), h.1, h.2, fun u' z' e => ⟨e.2, by rw [e.1]; exact keep⟩⟩)⟩

set_option maxHeartbeats 400000 in
theorem st_over (l : Launch) (G : va_G) (cB cI cZ : ClassId) (tc : Nat) (a b : Nat → Nat) {cnt : Nat} {u : CS} {v : MS} (hS : sm_S cnt u v) (hc : cnt < 512) (x1 : Int32) : stp l G cB cI cZ tc a b cnt u v yX4_over wsX4_over rmX4_over yX5_over wsX5_over rmX5_over [.int x1] := by
  obtain ⟨g0, r, n, rn, lv, lk, ss, rw, sg, od, aw, tb0, md0, ql0, dr0⟩ := u
  obtain ⟨g, t0, q, ag, ow, ru, hd, kd, tb, md, ql, dr, nb, bg, lr, lb, lh⟩ := v
  obtain ⟨⟨rfl, rfl, rfl, rfl, rfl⟩, ⟨b1, b2, b3, b4, b5⟩, hR, qs, Bn, hQ, hN, hH, hL⟩ := hS
  have hI := sm_px hQ hR
  have hJ := sm_mx hQ hN hR
  have hn6 : n ≤ 6 := hQ.1
  have keep : sm_S (cnt + 1) ((g, r, n, rn, lv, lk, ss, rw, sg, od, aw, tb, md, ql, dr) : CS) ((g, t0, q, ag, ow, ru, hd, kd, tb, md, ql, dr, nb, bg, lr, lb, lh) : MS) := ⟨⟨rfl, rfl, rfl, rfl, rfl⟩, ⟨by omega, by omega, by omega, by omega, by omega⟩, hR, qs, Bn, hQ, hN, hH, hL⟩
  have hlb : ∀ i, i < q → ∃ k : Nat, k < 4001 ∧ lb i = nI k := fun i hi => by obtain ⟨k, k1, k2, k3, -⟩ := hL.2.2.2.1 i hi; exact ⟨k, by omega, k3⟩
  by_cases h : mx_run g ru x1 = true
  · have hw : px_was g x1 = true := by rw [mx_run, Bool.and_eq_true] at h; exact h.1
    obtain ⟨k, k1, k2, rfl⟩ := px_was_of (by omega) hw
    rw [mx_run_nI (by omega) k1 k2] at h
    have h : ¬ ru k = 0 := by simpa using h
    have hrn : ¬ rn k = -1 := by
      rcases hN.2.1 k k1 k2 with z | z
      · exact absurd z.1 h
      · obtain ⟨j, hj, ej⟩ := hN.2.2 k (by omega)
        rw [z.2, ej]; exact px_nm1 j (by omega)
    have hN' : sm_N g (upd rn k (-1)) ow (upd ru k 0) := by
      refine ⟨hN.1, fun k' a1 a2 => ?_, hN.2.2⟩
      by_cases e : k' = k
      · subst e; rw [pk_us, pk_us]; exact Or.inl ⟨rfl, rfl⟩
      · rw [pk_un e, pk_un e]; exact hN.2.1 k' a1 a2
    have hle : (px_fw (fun q => q.1) (nI k) r (lk, ss, rw, sg)).1 ≤ r := sm_fw_le (sv := fun t => t.1) (fun _ _ => rfl) _ _ _
    refine ⟨fun u' zz => u' = (g, (px_fw (fun q => q.1) (nI k) r (lk, ss, rw, sg)).1, n, upd rn k (-1), lv, (px_fw (fun q => q.1) (nI k) r (lk, ss, rw, sg)).2.1, (px_fw (fun q => q.1) (nI k) r (lk, ss, rw, sg)).2.2.1, (px_fw (fun q => q.1) (nI k) r (lk, ss, rw, sg)).2.2.2.1, (px_fw (fun q => q.1) (nI k) r (lk, ss, rw, sg)).2.2.2.2, od, aw, tb, md, ql, dr) ∧ zz = 1, (c_over_ok l G cB cI cZ tc a rn lv lk ss rw sg od aw tb md ql dr g r n k (by omega) (by omega) k1 k2 hrn).mono (fun o w' h => ⟨_, (g, (px_fw (fun q => q.1) (nI k) r (lk, ss, rw, sg)).1, n, upd rn k (-1), lv, (px_fw (fun q => q.1) (nI k) r (lk, ss, rw, sg)).2.1, (px_fw (fun q => q.1) (nI k) r (lk, ss, rw, sg)).2.2.1, (px_fw (fun q => q.1) (nI k) r (lk, ss, rw, sg)).2.2.2.1, (px_fw (fun q => q.1) (nI k) r (lk, ss, rw, sg)).2.2.2.2, od, aw, tb, md, ql, dr), h.1, h.2, rfl, rfl⟩), (m_over_ok l G cB cI cZ tc b ag ow ru hd kd tb md ql dr nb bg lr lb lh g t0 q k (by omega) k1 k2 h).mono (fun o w' h => ⟨_, (g, t0, q, ag, ow, upd ru k 0, hd, kd, tb, md, ql, dr, nb, bg, lr, lb, lh), h.1, h.2, fun u' z' e => ⟨e.2, by rw [e.1]; exact ⟨⟨rfl, rfl, rfl, rfl, rfl⟩, ⟨by omega, by omega, by omega, by omega, by omega⟩, hR, qs, Bn, hQ, hN', hH, sm_L_over (by omega) hL k2⟩⟩⟩)⟩
  · have h : mx_run g ru x1 = false := by simpa using h
    have h2 : px_run g rn x1 = -1 := by
      unfold px_run
      by_cases c : px_was g x1 = true
      · obtain ⟨k, k1, k2, rfl⟩ := px_was_of (by omega) c
        rw [mx_run_nI (by omega) k1 k2] at h
        have h : ru k = 0 := by simpa using h
        rw [if_pos c, nI_clamp (by omega)]
        rcases hN.2.1 k k1 k2 with z | z
        · exact z.2
        · rw [z.1] at h; exact absurd h (by decide)
      · rw [if_neg c]
    exact ⟨fun u' zz => u' = (g, r, n, rn, lv, lk, ss, rw, sg, od, aw, tb, md, ql, dr) ∧ zz = 0, (c_over_no l G cB cI cZ tc a rn lv lk ss rw sg od aw tb md ql dr g r n x1 (by omega) h2).mono (fun o w' h => ⟨_, (g, r, n, rn, lv, lk, ss, rw, sg, od, aw, tb, md, ql, dr), h.1, h.2, rfl, rfl⟩), (m_over_no l G cB cI cZ tc b ag ow ru hd kd tb md ql dr nb bg lr lb lh g t0 q x1 (by omega) h).mono (fun o w' h => ⟨_, (g, t0, q, ag, ow, ru, hd, kd, tb, md, ql, dr, nb, bg, lr, lb, lh), h.1, h.2, fun u' z' e => ⟨e.2, by rw [e.1]; exact keep⟩⟩)⟩

set_option maxHeartbeats 400000 in
theorem st_holds (l : Launch) (G : va_G) (cB cI cZ : ClassId) (tc : Nat) (a b : Nat → Nat) {cnt : Nat} {u : CS} {v : MS} (hS : sm_S cnt u v) (hc : cnt < 512) (x1 x2 x3 : Int32) : stp l G cB cI cZ tc a b cnt u v yX4_holds wsX4_holds rmX4_holds yX5_holds wsX5_holds rmX5_holds [.int x1, .int x2, .int x3] := by
  obtain ⟨g0, r, n, rn, lv, lk, ss, rw, sg, od, aw, tb0, md0, ql0, dr0⟩ := u
  obtain ⟨g, t0, q, ag, ow, ru, hd, kd, tb, md, ql, dr, nb, bg, lr, lb, lh⟩ := v
  obtain ⟨⟨rfl, rfl, rfl, rfl, rfl⟩, ⟨b1, b2, b3, b4, b5⟩, hR, qs, Bn, hQ, hN, hH, hL⟩ := hS
  have hI := sm_px hQ hR
  have hJ := sm_mx hQ hN hR
  have hn6 : n ≤ 6 := hQ.1
  have keep : sm_S (cnt + 1) ((g, r, n, rn, lv, lk, ss, rw, sg, od, aw, tb, md, ql, dr) : CS) ((g, t0, q, ag, ow, ru, hd, kd, tb, md, ql, dr, nb, bg, lr, lb, lh) : MS) := ⟨⟨rfl, rfl, rfl, rfl, rfl⟩, ⟨by omega, by omega, by omega, by omega, by omega⟩, hR, qs, Bn, hQ, hN, hH, hL⟩
  have hlb : ∀ i, i < q → ∃ k : Nat, k < 4001 ∧ lb i = nI k := fun i hi => by obtain ⟨k, k1, k2, k3, -⟩ := hL.2.2.2.1 i hi; exact ⟨k, by omega, k3⟩
  by_cases h : (px_isS x1 && px_isT x2 && px_isM x3) = true
  · simp only [Bool.and_eq_true] at h
    obtain ⟨x, hx6, rfl⟩ := px_isS_of h.1.1
    obtain ⟨y, hy8, rfl⟩ := px_isT_of h.1.2
    obtain ⟨k, hk8, rfl⟩ := px_isM_of h.2
    have e := (hH x y k hx6 hy8 hk8).1
    have e2 : hd (72 * x + 9 * y + (k + 1)) - 1 = lv (64 * x + 8 * y + k) := by rw [e, Int32.add_sub_cancel]
    refine ⟨fun u' zz => u' = (g, r, n, rn, lv, lk, ss, rw, sg, od, aw, tb, md, ql, dr) ∧ zz = lv (64 * x + 8 * y + k), (c_holds_ok l G cB cI cZ tc a rn lv lk ss rw sg od aw tb md ql dr g r n x y k hx6 hy8 hk8).mono (fun o w' h => ⟨_, (g, r, n, rn, lv, lk, ss, rw, sg, od, aw, tb, md, ql, dr), h.1, h.2, rfl, rfl⟩), (m_holds_ok l G cB cI cZ tc b ag ow ru hd kd tb md ql dr nb bg lr lb lh g t0 q x y k hx6 hy8 hk8).mono (fun o w' h => ⟨_, (g, t0, q, ag, ow, ru, hd, kd, tb, md, ql, dr, nb, bg, lr, lb, lh), h.1, h.2, fun u' z' e => ⟨by rw [e.2, e2], by rw [e.1]; exact keep⟩⟩)⟩
  · have h : (px_isS x1 && px_isT x2 && px_isM x3) = false := by simpa using h
    exact ⟨fun u' zz => u' = (g, r, n, rn, lv, lk, ss, rw, sg, od, aw, tb, md, ql, dr) ∧ zz = -1, (c_holds_no l G cB cI cZ tc a rn lv lk ss rw sg od aw tb md ql dr g r n x1 x2 x3 h).mono (fun o w' h => ⟨_, (g, r, n, rn, lv, lk, ss, rw, sg, od, aw, tb, md, ql, dr), h.1, h.2, rfl, rfl⟩), (m_holds_no l G cB cI cZ tc b ag ow ru hd kd tb md ql dr nb bg lr lb lh g t0 q x1 x2 x3 h).mono (fun o w' h => ⟨_, (g, t0, q, ag, ow, ru, hd, kd, tb, md, ql, dr, nb, bg, lr, lb, lh), h.1, h.2, fun u' z' e => ⟨e.2, by rw [e.1]; exact keep⟩⟩)⟩

set_option maxHeartbeats 400000 in
theorem st_locker (l : Launch) (G : va_G) (cB cI cZ : ClassId) (tc : Nat) (a b : Nat → Nat) {cnt : Nat} {u : CS} {v : MS} (hS : sm_S cnt u v) (hc : cnt < 512) (x1 x2 : Int32) : stp l G cB cI cZ tc a b cnt u v yX4_locker wsX4_locker rmX4_locker yX5_locker wsX5_locker rmX5_locker [.int x1, .int x2] := by
  obtain ⟨g0, r, n, rn, lv, lk, ss, rw, sg, od, aw, tb0, md0, ql0, dr0⟩ := u
  obtain ⟨g, t0, q, ag, ow, ru, hd, kd, tb, md, ql, dr, nb, bg, lr, lb, lh⟩ := v
  obtain ⟨⟨rfl, rfl, rfl, rfl, rfl⟩, ⟨b1, b2, b3, b4, b5⟩, hR, qs, Bn, hQ, hN, hH, hL⟩ := hS
  have hI := sm_px hQ hR
  have hJ := sm_mx hQ hN hR
  have hn6 : n ≤ 6 := hQ.1
  have keep : sm_S (cnt + 1) ((g, r, n, rn, lv, lk, ss, rw, sg, od, aw, tb, md, ql, dr) : CS) ((g, t0, q, ag, ow, ru, hd, kd, tb, md, ql, dr, nb, bg, lr, lb, lh) : MS) := ⟨⟨rfl, rfl, rfl, rfl, rfl⟩, ⟨by omega, by omega, by omega, by omega, by omega⟩, hR, qs, Bn, hQ, hN, hH, hL⟩
  have hlb : ∀ i, i < q → ∃ k : Nat, k < 4001 ∧ lb i = nI k := fun i hi => by obtain ⟨k, k1, k2, k3, -⟩ := hL.2.2.2.1 i hi; exact ⟨k, by omega, k3⟩
  refine ⟨fun u' zz => u' = (g, r, n, rn, lv, lk, ss, rw, sg, od, aw, tb, md, ql, dr) ∧ zz = px_sn r lk rw sg x1 x2, (c_locker l G cB cI cZ tc a rn lv lk ss rw sg od aw tb md ql dr g r n x1 x2 (by omega)).mono (fun o w' h => ⟨_, (g, r, n, rn, lv, lk, ss, rw, sg, od, aw, tb, md, ql, dr), h.1, h.2, rfl, rfl⟩), (m_locker l G cB cI cZ tc b ag ow ru hd kd tb md ql dr nb bg lr lb lh g t0 q x1 x2 (by omega) hlb).mono (fun o w' h => (by obtain ⟨hw, T, hT, ho⟩ := h; exact ⟨_, (g, t0, q, ag, ow, ru, hd, kd, tb, md, ql, dr, nb, bg, lr, lb, lh), ho, hw, fun u' z' e => ⟨by rw [e.2, sm_locker (by omega) (by omega) hL hT], by rw [e.1]; exact keep⟩⟩))⟩

set_option maxHeartbeats 400000 in
theorem st_on (l : Launch) (G : va_G) (cB cI cZ : ClassId) (tc : Nat) (a b : Nat → Nat) {cnt : Nat} {u : CS} {v : MS} (hS : sm_S cnt u v) (hc : cnt < 512) (x1 : Int32) : stp l G cB cI cZ tc a b cnt u v yX4_on wsX4_on rmX4_on yX5_on wsX5_on rmX5_on [.int x1] := by
  obtain ⟨g0, r, n, rn, lv, lk, ss, rw, sg, od, aw, tb0, md0, ql0, dr0⟩ := u
  obtain ⟨g, t0, q, ag, ow, ru, hd, kd, tb, md, ql, dr, nb, bg, lr, lb, lh⟩ := v
  obtain ⟨⟨rfl, rfl, rfl, rfl, rfl⟩, ⟨b1, b2, b3, b4, b5⟩, hR, qs, Bn, hQ, hN, hH, hL⟩ := hS
  have hI := sm_px hQ hR
  have hJ := sm_mx hQ hN hR
  have hn6 : n ≤ 6 := hQ.1
  have keep : sm_S (cnt + 1) ((g, r, n, rn, lv, lk, ss, rw, sg, od, aw, tb, md, ql, dr) : CS) ((g, t0, q, ag, ow, ru, hd, kd, tb, md, ql, dr, nb, bg, lr, lb, lh) : MS) := ⟨⟨rfl, rfl, rfl, rfl, rfl⟩, ⟨by omega, by omega, by omega, by omega, by omega⟩, hR, qs, Bn, hQ, hN, hH, hL⟩
  have hlb : ∀ i, i < q → ∃ k : Nat, k < 4001 ∧ lb i = nI k := fun i hi => by obtain ⟨k, k1, k2, k3, -⟩ := hL.2.2.2.1 i hi; exact ⟨k, by omega, k3⟩
  by_cases h : px_isS x1 = true
  · obtain ⟨x, hx6, rfl⟩ := px_isS_of h
    refine ⟨fun u' zz => u' = (g, r, n, rn, lv, lk, ss, rw, sg, od, aw, tb, md, ql, dr) ∧ zz = px_wo g n rn lv od aw tb md dr (nI x), (c_on l G cB cI cZ tc a rn lv lk ss rw sg od aw tb md ql dr g r n (nI x) hI).mono (fun o w' h => ⟨_, (g, r, n, rn, lv, lk, ss, rw, sg, od, aw, tb, md, ql, dr), h.1, h.2, rfl, rfl⟩), (m_on_ok l G cB cI cZ tc b ag ow ru hd kd tb md ql dr nb bg lr lb lh g t0 q x hx6 hJ).mono (fun o w' h => ⟨_, (g, t0, q, ag, ow, ru, hd, kd, tb, md, ql, dr, nb, bg, lr, lb, lh), h.1, h.2, fun u' z' e => ⟨by rw [e.2, sm_wo hQ hN hH hR.2.1 hx6], by rw [e.1]; exact keep⟩⟩)⟩
  · have h : px_isS x1 = false := by simpa using h
    have e : px_wo g n rn lv od aw tb md dr x1 = 0 := by unfold px_wo; rw [sm_pl_bad hQ h]
    refine ⟨fun u' zz => u' = (g, r, n, rn, lv, lk, ss, rw, sg, od, aw, tb, md, ql, dr) ∧ zz = px_wo g n rn lv od aw tb md dr x1, (c_on l G cB cI cZ tc a rn lv lk ss rw sg od aw tb md ql dr g r n x1 hI).mono (fun o w' h => ⟨_, (g, r, n, rn, lv, lk, ss, rw, sg, od, aw, tb, md, ql, dr), h.1, h.2, rfl, rfl⟩), (m_on_no l G cB cI cZ tc b ag ow ru hd kd tb md ql dr nb bg lr lb lh g t0 q x1 h).mono (fun o w' h => ⟨_, (g, t0, q, ag, ow, ru, hd, kd, tb, md, ql, dr, nb, bg, lr, lb, lh), h.1, h.2, fun u' z' e2 => ⟨by rw [e2.2, e], by rw [e2.1]; exact keep⟩⟩)⟩

set_option maxHeartbeats 400000 in
theorem st_waiting (l : Launch) (G : va_G) (cB cI cZ : ClassId) (tc : Nat) (a b : Nat → Nat) {cnt : Nat} {u : CS} {v : MS} (hS : sm_S cnt u v) (hc : cnt < 512) (x1 : Int32) : stp l G cB cI cZ tc a b cnt u v yX4_waiting wsX4_waiting rmX4_waiting yX5_waiting wsX5_waiting rmX5_waiting [.int x1] := by
  obtain ⟨g0, r, n, rn, lv, lk, ss, rw, sg, od, aw, tb0, md0, ql0, dr0⟩ := u
  obtain ⟨g, t0, q, ag, ow, ru, hd, kd, tb, md, ql, dr, nb, bg, lr, lb, lh⟩ := v
  obtain ⟨⟨rfl, rfl, rfl, rfl, rfl⟩, ⟨b1, b2, b3, b4, b5⟩, hR, qs, Bn, hQ, hN, hH, hL⟩ := hS
  have hI := sm_px hQ hR
  have hJ := sm_mx hQ hN hR
  have hn6 : n ≤ 6 := hQ.1
  have keep : sm_S (cnt + 1) ((g, r, n, rn, lv, lk, ss, rw, sg, od, aw, tb, md, ql, dr) : CS) ((g, t0, q, ag, ow, ru, hd, kd, tb, md, ql, dr, nb, bg, lr, lb, lh) : MS) := ⟨⟨rfl, rfl, rfl, rfl, rfl⟩, ⟨by omega, by omega, by omega, by omega, by omega⟩, hR, qs, Bn, hQ, hN, hH, hL⟩
  have hlb : ∀ i, i < q → ∃ k : Nat, k < 4001 ∧ lb i = nI k := fun i hi => by obtain ⟨k, k1, k2, k3, -⟩ := hL.2.2.2.1 i hi; exact ⟨k, by omega, k3⟩
  refine ⟨fun u' zz => u' = (g, r, n, rn, lv, lk, ss, rw, sg, od, aw, tb, md, ql, dr) ∧ zz = px_at n od x1, (c_waiting l G cB cI cZ tc a rn lv lk ss rw sg od aw tb md ql dr g r n x1 hn6).mono (fun o w' h => ⟨_, (g, r, n, rn, lv, lk, ss, rw, sg, od, aw, tb, md, ql, dr), h.1, h.2, rfl, rfl⟩), (c_X5_waiting l G cB cI cZ tc b ag ow ru hd kd tb md ql dr nb bg lr lb lh g t0 q x1 hJ).mono (fun o w' h => (by obtain ⟨hw, so, hso, -, ho⟩ := h; exact ⟨_, (g, t0, q, ag, ow, ru, hd, kd, tb, md, ql, dr, nb, bg, lr, lb, lh), ho, hw, fun u' z' e => ⟨by rw [e.2, sm_waiting hQ hso], by rw [e.1]; exact keep⟩⟩))⟩

set_option maxHeartbeats 400000 in
theorem st_wish (l : Launch) (G : va_G) (cB cI cZ : ClassId) (tc : Nat) (a b : Nat → Nat) {cnt : Nat} {u : CS} {v : MS} (hS : sm_S cnt u v) (hc : cnt < 512) (x1 : Int32) : stp l G cB cI cZ tc a b cnt u v yX4_wish wsX4_wish rmX4_wish yX5_wish wsX5_wish rmX5_wish [.int x1] := by
  obtain ⟨g0, r, n, rn, lv, lk, ss, rw, sg, od, aw, tb0, md0, ql0, dr0⟩ := u
  obtain ⟨g, t0, q, ag, ow, ru, hd, kd, tb, md, ql, dr, nb, bg, lr, lb, lh⟩ := v
  obtain ⟨⟨rfl, rfl, rfl, rfl, rfl⟩, ⟨b1, b2, b3, b4, b5⟩, hR, qs, Bn, hQ, hN, hH, hL⟩ := hS
  have hI := sm_px hQ hR
  have hJ := sm_mx hQ hN hR
  have hn6 : n ≤ 6 := hQ.1
  have keep : sm_S (cnt + 1) ((g, r, n, rn, lv, lk, ss, rw, sg, od, aw, tb, md, ql, dr) : CS) ((g, t0, q, ag, ow, ru, hd, kd, tb, md, ql, dr, nb, bg, lr, lb, lh) : MS) := ⟨⟨rfl, rfl, rfl, rfl, rfl⟩, ⟨by omega, by omega, by omega, by omega, by omega⟩, hR, qs, Bn, hQ, hN, hH, hL⟩
  have hlb : ∀ i, i < q → ∃ k : Nat, k < 4001 ∧ lb i = nI k := fun i hi => by obtain ⟨k, k1, k2, k3, -⟩ := hL.2.2.2.1 i hi; exact ⟨k, by omega, k3⟩
  by_cases h : px_isS x1 = true
  · obtain ⟨x, hx6, rfl⟩ := px_isS_of h
    have e0 : (if (px_pl n od (nI x)).isSome = true then (if aw x = 0 then (if dr x = 0 then 10 * tb x + md x else 1000 + (10 * tb x + md x)) else 10000 + aw x) else 0) = (if kd x = 2 then 10000 + nb x else if kd x = 0 then 0 else 10 * tb x + md x + (if dr x = 0 then 0 else 1000)) := by
      rcases hQ.2.2.2.2.2.2.2.2.1 x hx6 with z | ⟨z, z1, -⟩ | ⟨z, k, k1, k2, z1, z2⟩
      · rw [if_neg (fun w => (sm_pl_iff hQ hx6).mp w z), z, if_neg (by decide), if_pos rfl]
      · rw [if_pos ((sm_pl_iff hQ hx6).mpr (by rw [z]; decide)), z, if_pos z1, if_neg (show ¬ (1 : Int32) = 2 by decide), if_neg (show ¬ (1 : Int32) = 0 by decide)]
        by_cases d : dr x = 0
        · rw [if_pos d, if_pos d, Int32.add_zero]
        · rw [if_neg d, if_neg d, Int32.add_comm]
      · rw [if_pos ((sm_pl_iff hQ hx6).mpr (by rw [z]; decide)), z, if_pos rfl, if_neg (by rw [z1]; exact nI_ne0 (by omega) (by omega)), z1, z2]
    refine ⟨fun u' zz => u' = (g, r, n, rn, lv, lk, ss, rw, sg, od, aw, tb, md, ql, dr) ∧ zz = (if (px_pl n od (nI x)).isSome = true then (if aw x = 0 then (if dr x = 0 then 10 * tb x + md x else 1000 + (10 * tb x + md x)) else 10000 + aw x) else 0), (c_wish_ok l G cB cI cZ tc a rn lv lk ss rw sg od aw tb md ql dr g r n x hx6 hn6 (hR.2.2.2.1 x hx6)).mono (fun o w' h => ⟨_, (g, r, n, rn, lv, lk, ss, rw, sg, od, aw, tb, md, ql, dr), h.1, h.2, rfl, rfl⟩), (m_wish_ok l G cB cI cZ tc b ag ow ru hd kd tb md ql dr nb bg lr lb lh g t0 q x hx6).mono (fun o w' h => ⟨_, (g, t0, q, ag, ow, ru, hd, kd, tb, md, ql, dr, nb, bg, lr, lb, lh), h.1, h.2, fun u' z' e => ⟨by rw [e.2, e0], by rw [e.1]; exact keep⟩⟩)⟩
  · have h : px_isS x1 = false := by simpa using h
    exact ⟨fun u' zz => u' = (g, r, n, rn, lv, lk, ss, rw, sg, od, aw, tb, md, ql, dr) ∧ zz = -1, (c_wish_no l G cB cI cZ tc a rn lv lk ss rw sg od aw tb md ql dr g r n x1 h).mono (fun o w' h => ⟨_, (g, r, n, rn, lv, lk, ss, rw, sg, od, aw, tb, md, ql, dr), h.1, h.2, rfl, rfl⟩), (m_wish_no l G cB cI cZ tc b ag ow ru hd kd tb md ql dr nb bg lr lb lh g t0 q x1 h).mono (fun o w' h => ⟨_, (g, t0, q, ag, ow, ru, hd, kd, tb, md, ql, dr, nb, bg, lr, lb, lh), h.1, h.2, fun u' z' e => ⟨e.2, by rw [e.1]; exact keep⟩⟩)⟩

set_option maxHeartbeats 400000 in
theorem st_end (l : Launch) (G : va_G) (cB cI cZ : ClassId) (tc : Nat) (a b : Nat → Nat) {cnt : Nat} {u : CS} {v : MS} (hS : sm_S cnt u v) (hc : cnt < 512) (x1 x2 : Int32) : stp l G cB cI cZ tc a b cnt u v yX4_end wsX4_end rmX4_end yX5_end wsX5_end rmX5_end [.int x1, .int x2] := by
  obtain ⟨g0, r, n, rn, lv, lk, ss, rw, sg, od, aw, tb0, md0, ql0, dr0⟩ := u
  obtain ⟨g, t0, q, ag, ow, ru, hd, kd, tb, md, ql, dr, nb, bg, lr, lb, lh⟩ := v
  obtain ⟨⟨rfl, rfl, rfl, rfl, rfl⟩, ⟨b1, b2, b3, b4, b5⟩, hR, qs, Bn, hQ, hN, hH, hL⟩ := hS
  have hI := sm_px hQ hR
  have hJ := sm_mx hQ hN hR
  have hn6 : n ≤ 6 := hQ.1
  have keep : sm_S (cnt + 1) ((g, r, n, rn, lv, lk, ss, rw, sg, od, aw, tb, md, ql, dr) : CS) ((g, t0, q, ag, ow, ru, hd, kd, tb, md, ql, dr, nb, bg, lr, lb, lh) : MS) := ⟨⟨rfl, rfl, rfl, rfl, rfl⟩, ⟨by omega, by omega, by omega, by omega, by omega⟩, hR, qs, Bn, hQ, hN, hH, hL⟩
  have hlb : ∀ i, i < q → ∃ k : Nat, k < 4001 ∧ lb i = nI k := fun i hi => by obtain ⟨k, k1, k2, k3, -⟩ := hL.2.2.2.1 i hi; exact ⟨k, by omega, k3⟩
  by_cases h : (px_isS x1 && px_isT x2) = true
  · simp only [Bool.and_eq_true] at h
    obtain ⟨x, hx6, rfl⟩ := px_isS_of h.1
    obtain ⟨z, hz8, rfl⟩ := px_isT_of h.2
    refine ⟨fun u' zz => u' = (g, r, n, rn, px_rep x (nI z) (-1) lv, lk, ss, rw, sg, od, aw, tb, md, ql, dr) ∧ zz = 1, (c_end_ok l G cB cI cZ tc a rn lv lk ss rw sg od aw tb md ql dr g r n x (nI z) hx6 h.2).mono (fun o w' h => ⟨_, (g, r, n, rn, px_rep x (nI z) (-1) lv, lk, ss, rw, sg, od, aw, tb, md, ql, dr), h.1, h.2, rfl, rfl⟩), (m_end_ok l G cB cI cZ tc b ag ow ru hd kd tb md ql dr nb bg lr lb lh g t0 q x (nI z) hx6 h.2).mono (fun o w' h => ⟨_, (g, t0, q, ag, ow, ru, mx_end x (nI z) 0 hd, kd, tb, md, ql, dr, nb, bg, lr, lb, lh), h.1, h.2, fun u' z' e => ⟨e.2, by rw [e.1]; exact ⟨⟨rfl, rfl, rfl, rfl, rfl⟩, ⟨by omega, by omega, by omega, by omega, by omega⟩, hR, qs, Bn, hQ, hN, sm_H_rep hH hx6 (by omega) (by decide) (Or.inl rfl), hL⟩⟩⟩)⟩
  · have h : (px_isS x1 && px_isT x2) = false := by simpa using h
    exact ⟨fun u' zz => u' = (g, r, n, rn, lv, lk, ss, rw, sg, od, aw, tb, md, ql, dr) ∧ zz = 0, (c_end_no l G cB cI cZ tc a rn lv lk ss rw sg od aw tb md ql dr g r n x1 x2 h).mono (fun o w' h => ⟨_, (g, r, n, rn, lv, lk, ss, rw, sg, od, aw, tb, md, ql, dr), h.1, h.2, rfl, rfl⟩), (m_end_no l G cB cI cZ tc b ag ow ru hd kd tb md ql dr nb bg lr lb lh g t0 q x1 x2 h).mono (fun o w' h => ⟨_, (g, t0, q, ag, ow, ru, hd, kd, tb, md, ql, dr, nb, bg, lr, lb, lh), h.1, h.2, fun u' z' e => ⟨e.2, by rw [e.1]; exact keep⟩⟩)⟩

set_option maxHeartbeats 400000 in
theorem st_release (l : Launch) (G : va_G) (cB cI cZ : ClassId) (tc : Nat) (a b : Nat → Nat) {cnt : Nat} {u : CS} {v : MS} (hS : sm_S cnt u v) (hc : cnt < 512) (x1 x2 : Int32) : stp l G cB cI cZ tc a b cnt u v yX4_release wsX4_release rmX4_release yX5_release wsX5_release rmX5_release [.int x1, .int x2] := by
  obtain ⟨g0, r, n, rn, lv, lk, ss, rw, sg, od, aw, tb0, md0, ql0, dr0⟩ := u
  obtain ⟨g, t0, q, ag, ow, ru, hd, kd, tb, md, ql, dr, nb, bg, lr, lb, lh⟩ := v
  obtain ⟨⟨rfl, rfl, rfl, rfl, rfl⟩, ⟨b1, b2, b3, b4, b5⟩, hR, qs, Bn, hQ, hN, hH, hL⟩ := hS
  have hI := sm_px hQ hR
  have hJ := sm_mx hQ hN hR
  have hn6 : n ≤ 6 := hQ.1
  have keep : sm_S (cnt + 1) ((g, r, n, rn, lv, lk, ss, rw, sg, od, aw, tb, md, ql, dr) : CS) ((g, t0, q, ag, ow, ru, hd, kd, tb, md, ql, dr, nb, bg, lr, lb, lh) : MS) := ⟨⟨rfl, rfl, rfl, rfl, rfl⟩, ⟨by omega, by omega, by omega, by omega, by omega⟩, hR, qs, Bn, hQ, hN, hH, hL⟩
  have hlb : ∀ i, i < q → ∃ k : Nat, k < 4001 ∧ lb i = nI k := fun i hi => by obtain ⟨k, k1, k2, k3, -⟩ := hL.2.2.2.1 i hi; exact ⟨k, by omega, k3⟩
  have hin : mx_in x2 1 7 = (px_isT x2 && !decide (x2 = 0)) := by
    rw [← mx_inT]
    unfold mx_in
    have h0 : x2 < 1 ↔ x2 < 0 ∨ x2 = 0 := by
      rw [Int32.lt_iff_toInt_lt, Int32.lt_iff_toInt_lt, ← Int32.toInt_inj]
      have a1 : (1 : Int32).toInt = 1 := by decide
      have a0 : (0 : Int32).toInt = 0 := by decide
      rw [a1, a0]; omega
    by_cases c0 : x2 < 0
    · have := h0.mpr (Or.inl c0); simp [c0, this]
    · by_cases c1 : x2 = 0
      · have := h0.mpr (Or.inr c1); simp [c1]
      · have : ¬ x2 < 1 := fun z => (h0.mp z).elim c0 c1
        rw [decide_eq_false this, decide_eq_false c0, decide_eq_false c1]; simp
  by_cases h : (px_isS x1 && px_isT x2 && !decide (x2 = 0)) = true
  · simp only [Bool.and_eq_true] at h
    obtain ⟨⟨h1, h2⟩, h3⟩ := h
    obtain ⟨x, hx6, rfl⟩ := px_isS_of h1
    obtain ⟨w, hw8, rfl⟩ := px_isT_of h2
    have hin2 : mx_in (nI w) 1 7 = true := by rw [hin, h2, h3]; rfl
    have w0 : w ≠ 0 := fun e => by rw [e] at h3; exact absurd h3 (by decide)
    obtain ⟨z, rfl⟩ : ∃ z, w = z + 1 := ⟨w - 1, by omega⟩
    have eql : upd ql x (if ql x < nI (z + 1) then ql x else nI z) = px_low ql x z := by
      unfold px_low
      by_cases c : ql x < nI (z + 1)
      · rw [if_pos c, if_pos c]; funext j
        by_cases q : j = x
        · subst q; rw [pk_us]
        · rw [pk_un q]
      · rw [if_neg c, if_neg c]
    have hR' : sm_R ag tb md dr (px_low ql x z) nb := by
      refine ⟨hR.1, hR.2.1, hR.2.2.1, hR.2.2.2.1, fun j hj => ?_, hR.2.2.2.2.2⟩
      unfold px_low
      by_cases c : ql x < nI (z + 1)
      · rw [if_pos c]; exact hR.2.2.2.2.1 j hj
      · rw [if_neg c]
        by_cases q : j = x
        · subst q; rw [pk_us]; exact ⟨z, by omega, rfl⟩
        · rw [pk_un q]; exact hR.2.2.2.2.1 j hj
    refine ⟨fun u' zz => u' = (g, r, n, rn, px_rep x (nI (z + 1)) (nI z) lv, lk, ss, rw, sg, od, aw, tb, md, px_low ql x z, dr) ∧ zz = 1, (c_release_ok l G cB cI cZ tc a rn lv lk ss rw sg od aw tb md ql dr g r n x z hx6 (by omega)).mono (fun o w' h => ⟨_, (g, r, n, rn, px_rep x (nI (z + 1)) (nI z) lv, lk, ss, rw, sg, od, aw, tb, md, px_low ql x z, dr), h.1, h.2, rfl, rfl⟩), (m_release_ok l G cB cI cZ tc b ag ow ru hd kd tb md ql dr nb bg lr lb lh g t0 q x z hx6 (by omega) hin2).mono (fun o w' h => ⟨_, (g, t0, q, ag, ow, ru, mx_end x (nI (z + 1)) (nI (z + 1)) hd, kd, tb, md, upd ql x (if ql x < nI (z + 1) then ql x else nI z), dr, nb, bg, lr, lb, lh), h.1, h.2, fun u' z' e => ⟨e.2, by rw [e.1]; exact ⟨⟨rfl, rfl, rfl, eql, rfl⟩, ⟨by omega, by omega, by omega, by omega, by omega⟩, hR', qs, Bn, hQ, hN, sm_H_rep hH hx6 (by omega) (nI_1 z).symm (Or.inr ⟨z, by omega, rfl⟩), hL⟩⟩⟩)⟩
  · have h : (px_isS x1 && px_isT x2 && !decide (x2 = 0)) = false := by simpa using h
    exact ⟨fun u' zz => u' = (g, r, n, rn, lv, lk, ss, rw, sg, od, aw, tb, md, ql, dr) ∧ zz = 0, (c_release_no l G cB cI cZ tc a rn lv lk ss rw sg od aw tb md ql dr g r n x1 x2 h).mono (fun o w' h => ⟨_, (g, r, n, rn, lv, lk, ss, rw, sg, od, aw, tb, md, ql, dr), h.1, h.2, rfl, rfl⟩), (m_release_no l G cB cI cZ tc b ag ow ru hd kd tb md ql dr nb bg lr lb lh g t0 q x1 x2 (by rw [hin, ← Bool.and_assoc]; exact h)).mono (fun o w' h => ⟨_, (g, t0, q, ag, ow, ru, hd, kd, tb, md, ql, dr, nb, bg, lr, lb, lh), h.1, h.2, fun u' z' e => ⟨e.2, by rw [e.1]; exact keep⟩⟩)⟩

set_option maxHeartbeats 400000 in
theorem st_drop (l : Launch) (G : va_G) (cB cI cZ : ClassId) (tc : Nat) (a b : Nat → Nat) {cnt : Nat} {u : CS} {v : MS} (hS : sm_S cnt u v) (hc : cnt < 512) (x1 : Int32) : stp l G cB cI cZ tc a b cnt u v yX4_drop wsX4_drop rmX4_drop yX5_drop wsX5_drop rmX5_drop [.int x1] := by
  obtain ⟨g0, r, n, rn, lv, lk, ss, rw, sg, od, aw, tb0, md0, ql0, dr0⟩ := u
  obtain ⟨g, t0, q, ag, ow, ru, hd, kd, tb, md, ql, dr, nb, bg, lr, lb, lh⟩ := v
  obtain ⟨⟨rfl, rfl, rfl, rfl, rfl⟩, ⟨b1, b2, b3, b4, b5⟩, hR, qs, Bn, hQ, hN, hH, hL⟩ := hS
  have hI := sm_px hQ hR
  have hJ := sm_mx hQ hN hR
  have hn6 : n ≤ 6 := hQ.1
  have keep : sm_S (cnt + 1) ((g, r, n, rn, lv, lk, ss, rw, sg, od, aw, tb, md, ql, dr) : CS) ((g, t0, q, ag, ow, ru, hd, kd, tb, md, ql, dr, nb, bg, lr, lb, lh) : MS) := ⟨⟨rfl, rfl, rfl, rfl, rfl⟩, ⟨by omega, by omega, by omega, by omega, by omega⟩, hR, qs, Bn, hQ, hN, hH, hL⟩
  have hlb : ∀ i, i < q → ∃ k : Nat, k < 4001 ∧ lb i = nI k := fun i hi => by obtain ⟨k, k1, k2, k3, -⟩ := hL.2.2.2.1 i hi; exact ⟨k, by omega, k3⟩
  by_cases h : px_isT x1 = true
  · obtain ⟨y, hy8, rfl⟩ := px_isT_of h
    have edr := sm_drop_dr (tb := tb) (hd := hd) hQ hR.2.2.2.1 hy8
    have hR' : sm_R ag tb md (px_md n od aw tb dr (nI y)) ql nb := by
      refine ⟨hR.1, hR.2.1, hR.2.2.1, fun j hj => ?_, hR.2.2.2.2.1, hR.2.2.2.2.2⟩
      unfold px_md
      rw [px_md_eq hQ (nI y) dr n (Nat.le_refl n)]
      split
      · exact Or.inr rfl
      · exact hR.2.2.2.1 j hj
    refine ⟨fun u' zz => u' = (g, r, n, rn, px_fg y lv, lk, ss, rw, sg, od, aw, tb, md, ql, px_md n od aw tb dr (nI y)) ∧ zz = 1, (c_drop_ok l G cB cI cZ tc a rn lv lk ss rw sg od aw tb md ql dr g r n y hy8 hn6 hI.2.2.1).mono (fun o w' h => ⟨_, (g, r, n, rn, px_fg y lv, lk, ss, rw, sg, od, aw, tb, md, ql, px_md n od aw tb dr (nI y)), h.1, h.2, rfl, rfl⟩), (m_drop_ok l G cB cI cZ tc b ag ow ru hd kd tb md ql dr nb bg lr lb lh g t0 q y hy8).mono (fun o w' h => ⟨_, (g, t0, q, ag, ow, ru, (mx_dp kd tb y (hd, dr)).1, kd, tb, md, ql, (mx_dp kd tb y (hd, dr)).2, nb, bg, lr, lb, lh), h.1, h.2, fun u' z' e => ⟨e.2, by rw [e.1]; exact ⟨⟨rfl, rfl, rfl, rfl, edr.symm⟩, ⟨by omega, by omega, by omega, by omega, by omega⟩, hR', qs, Bn, hQ, hN, sm_H_drop hH hy8, hL⟩⟩⟩)⟩
  · have h : px_isT x1 = false := by simpa using h
    exact ⟨fun u' zz => u' = (g, r, n, rn, lv, lk, ss, rw, sg, od, aw, tb, md, ql, dr) ∧ zz = 0, (c_drop_no l G cB cI cZ tc a rn lv lk ss rw sg od aw tb md ql dr g r n x1 h).mono (fun o w' h => ⟨_, (g, r, n, rn, lv, lk, ss, rw, sg, od, aw, tb, md, ql, dr), h.1, h.2, rfl, rfl⟩), (m_drop_no l G cB cI cZ tc b ag ow ru hd kd tb md ql dr nb bg lr lb lh g t0 q x1 h).mono (fun o w' h => ⟨_, (g, t0, q, ag, ow, ru, hd, kd, tb, md, ql, dr, nb, bg, lr, lb, lh), h.1, h.2, fun u' z' e => ⟨e.2, by rw [e.1]; exact keep⟩⟩)⟩

set_option maxHeartbeats 400000 in
theorem st_clear (l : Launch) (G : va_G) (cB cI cZ : ClassId) (tc : Nat) (a b : Nat → Nat) {cnt : Nat} {u : CS} {v : MS} (hS : sm_S cnt u v) (hc : cnt < 512) (x1 : Int32) : stp l G cB cI cZ tc a b cnt u v yX4_clear wsX4_clear rmX4_clear yX5_clear wsX5_clear rmX5_clear [.int x1] := by
  obtain ⟨g0, r, n, rn, lv, lk, ss, rw, sg, od, aw, tb0, md0, ql0, dr0⟩ := u
  obtain ⟨g, t0, q, ag, ow, ru, hd, kd, tb, md, ql, dr, nb, bg, lr, lb, lh⟩ := v
  obtain ⟨⟨rfl, rfl, rfl, rfl, rfl⟩, ⟨b1, b2, b3, b4, b5⟩, hR, qs, Bn, hQ, hN, hH, hL⟩ := hS
  have hI := sm_px hQ hR
  have hJ := sm_mx hQ hN hR
  have hn6 : n ≤ 6 := hQ.1
  have keep : sm_S (cnt + 1) ((g, r, n, rn, lv, lk, ss, rw, sg, od, aw, tb, md, ql, dr) : CS) ((g, t0, q, ag, ow, ru, hd, kd, tb, md, ql, dr, nb, bg, lr, lb, lh) : MS) := ⟨⟨rfl, rfl, rfl, rfl, rfl⟩, ⟨by omega, by omega, by omega, by omega, by omega⟩, hR, qs, Bn, hQ, hN, hH, hL⟩
  have hlb : ∀ i, i < q → ∃ k : Nat, k < 4001 ∧ lb i = nI k := fun i hi => by obtain ⟨k, k1, k2, k3, -⟩ := hL.2.2.2.1 i hi; exact ⟨k, by omega, k3⟩
  by_cases h : px_isR x1 = true
  · refine ⟨fun u' zz => u' = (g, (px_fw (fun q => q.2.2.1) x1 r (lk, ss, rw, sg)).1, n, rn, lv, (px_fw (fun q => q.2.2.1) x1 r (lk, ss, rw, sg)).2.1, (px_fw (fun q => q.2.2.1) x1 r (lk, ss, rw, sg)).2.2.1, (px_fw (fun q => q.2.2.1) x1 r (lk, ss, rw, sg)).2.2.2.1, (px_fw (fun q => q.2.2.1) x1 r (lk, ss, rw, sg)).2.2.2.2, od, aw, tb, md, ql, dr) ∧ zz = 1, (c_clear_ok l G cB cI cZ tc a rn lv lk ss rw sg od aw tb md ql dr g r n x1 h (by omega)).mono (fun o w' h => ⟨_, (g, (px_fw (fun q => q.2.2.1) x1 r (lk, ss, rw, sg)).1, n, rn, lv, (px_fw (fun q => q.2.2.1) x1 r (lk, ss, rw, sg)).2.1, (px_fw (fun q => q.2.2.1) x1 r (lk, ss, rw, sg)).2.2.1, (px_fw (fun q => q.2.2.1) x1 r (lk, ss, rw, sg)).2.2.2.1, (px_fw (fun q => q.2.2.1) x1 r (lk, ss, rw, sg)).2.2.2.2, od, aw, tb, md, ql, dr), h.1, h.2, rfl, rfl⟩), (m_clear_ok l G cB cI cZ tc b ag ow ru hd kd tb md ql dr nb bg lr lb lh g t0 q x1 (by omega) h).mono (fun o w' h => (by obtain ⟨ho, c, lr1, lb1, lh1, hc1, hw⟩ := h; obtain ⟨l1, l2, l3⟩ := sm_L_clear hL hc1; exact ⟨_, (g, t0, c, ag, ow, ru, hd, kd, tb, md, ql, dr, nb, bg, lr1, lb1, lh1), ho, hw, fun u' z' e => ⟨e.2, by rw [e.1]; exact ⟨⟨rfl, rfl, rfl, rfl, rfl⟩, ⟨by omega, by omega, by omega, by omega, by omega⟩, hR, qs, Bn, hQ, hN, hH, l3⟩⟩⟩))⟩
  · have h : px_isR x1 = false := by simpa using h
    exact ⟨fun u' zz => u' = (g, r, n, rn, lv, lk, ss, rw, sg, od, aw, tb, md, ql, dr) ∧ zz = 0, (c_clear_no l G cB cI cZ tc a rn lv lk ss rw sg od aw tb md ql dr g r n x1 h).mono (fun o w' h => ⟨_, (g, r, n, rn, lv, lk, ss, rw, sg, od, aw, tb, md, ql, dr), h.1, h.2, rfl, rfl⟩), (m_clear_no l G cB cI cZ tc b ag ow ru hd kd tb md ql dr nb bg lr lb lh g t0 q x1 h).mono (fun o w' h => ⟨_, (g, t0, q, ag, ow, ru, hd, kd, tb, md, ql, dr, nb, bg, lr, lb, lh), h.1, h.2, fun u' z' e => ⟨e.2, by rw [e.1]; exact keep⟩⟩)⟩

set_option maxHeartbeats 400000 in
theorem st_cancel (l : Launch) (G : va_G) (cB cI cZ : ClassId) (tc : Nat) (a b : Nat → Nat) {cnt : Nat} {u : CS} {v : MS} (hS : sm_S cnt u v) (hc : cnt < 512) (x1 : Int32) : stp l G cB cI cZ tc a b cnt u v yX4_cancel wsX4_cancel rmX4_cancel yX5_cancel wsX5_cancel rmX5_cancel [.int x1] := by
  obtain ⟨g0, r, n, rn, lv, lk, ss, rw, sg, od, aw, tb0, md0, ql0, dr0⟩ := u
  obtain ⟨g, t0, q, ag, ow, ru, hd, kd, tb, md, ql, dr, nb, bg, lr, lb, lh⟩ := v
  obtain ⟨⟨rfl, rfl, rfl, rfl, rfl⟩, ⟨b1, b2, b3, b4, b5⟩, hR, qs, Bn, hQ, hN, hH, hL⟩ := hS
  have hI := sm_px hQ hR
  have hJ := sm_mx hQ hN hR
  have hn6 : n ≤ 6 := hQ.1
  have keep : sm_S (cnt + 1) ((g, r, n, rn, lv, lk, ss, rw, sg, od, aw, tb, md, ql, dr) : CS) ((g, t0, q, ag, ow, ru, hd, kd, tb, md, ql, dr, nb, bg, lr, lb, lh) : MS) := ⟨⟨rfl, rfl, rfl, rfl, rfl⟩, ⟨by omega, by omega, by omega, by omega, by omega⟩, hR, qs, Bn, hQ, hN, hH, hL⟩
  have hlb : ∀ i, i < q → ∃ k : Nat, k < 4001 ∧ lb i = nI k := fun i hi => by obtain ⟨k, k1, k2, k3, -⟩ := hL.2.2.2.1 i hi; exact ⟨k, by omega, k3⟩
  by_cases h : px_isS x1 = true
  · obtain ⟨x, hx6, rfl⟩ := px_isS_of h
    by_cases k0 : kd x = 0
    · have e : (px_pl n od (nI x)).isSome = false := by rw [sm_pl_none hQ hx6 k0]; rfl
      refine ⟨fun u' zz => u' = (g, r, n, rn, lv, lk, ss, rw, sg, od, aw, tb, md, ql, dr) ∧ zz = 0, (c_cancel l G cB cI cZ tc a rn lv lk ss rw sg od aw tb md ql dr g r n (nI x) hn6).mono (fun o w' h => (by rw [e, if_neg (by decide)] at h; exact ⟨_, (g, r, n, rn, lv, lk, ss, rw, sg, od, aw, tb, md, ql, dr), h.1, h.2, rfl, rfl⟩)), (m_cancel_ok l G cB cI cZ tc b ag ow ru hd kd tb md ql dr nb bg lr lb lh g t0 q x hx6).mono (fun o w' h => (by rw [if_pos k0] at h; exact ⟨_, (g, t0, q, ag, ow, ru, hd, kd, tb, md, ql, dr, nb, bg, lr, lb, lh), h.1, h.2, fun u' z' e => ⟨e.2, by rw [e.1]; exact keep⟩⟩))⟩
    · obtain ⟨qs', hQ'⟩ := sm_Q_rm hQ hx6 k0
      have e : (px_pl n od (nI x)).isSome = true := (sm_pl_iff hQ hx6).mpr k0
      refine ⟨fun u' zz => u' = (g, r, (px_rm n od (nI x)).1, rn, lv, lk, ss, rw, sg, (px_rm n od (nI x)).2, aw, tb, md, ql, dr) ∧ zz = 1, (c_cancel l G cB cI cZ tc a rn lv lk ss rw sg od aw tb md ql dr g r n (nI x) hn6).mono (fun o w' h => (by rw [if_pos e] at h; exact ⟨_, (g, r, (px_rm n od (nI x)).1, rn, lv, lk, ss, rw, sg, (px_rm n od (nI x)).2, aw, tb, md, ql, dr), h.1, h.2, rfl, rfl⟩)), (m_cancel_ok l G cB cI cZ tc b ag ow ru hd kd tb md ql dr nb bg lr lb lh g t0 q x hx6).mono (fun o w' h => (by rw [if_neg k0] at h; exact ⟨_, (g, t0, q, ag, ow, ru, hd, upd kd x 0, tb, md, ql, dr, nb, bg, lr, lb, lh), h.1, h.2, fun u' z' e => ⟨e.2, by rw [e.1]; exact ⟨⟨rfl, rfl, rfl, rfl, rfl⟩, ⟨by omega, by omega, by omega, by omega, by omega⟩, hR, qs', Bn, hQ', hN, hH, hL⟩⟩⟩))⟩
  · have h : px_isS x1 = false := by simpa using h
    have e : (px_pl n od x1).isSome = false := by rw [sm_pl_bad hQ h]; rfl
    refine ⟨fun u' zz => u' = (g, r, n, rn, lv, lk, ss, rw, sg, od, aw, tb, md, ql, dr) ∧ zz = 0, (c_cancel l G cB cI cZ tc a rn lv lk ss rw sg od aw tb md ql dr g r n x1 hn6).mono (fun o w' h => (by rw [e, if_neg (by decide)] at h; exact ⟨_, (g, r, n, rn, lv, lk, ss, rw, sg, od, aw, tb, md, ql, dr), h.1, h.2, rfl, rfl⟩)), (m_cancel_no l G cB cI cZ tc b ag ow ru hd kd tb md ql dr nb bg lr lb lh g t0 q x1 h).mono (fun o w' h => ⟨_, (g, t0, q, ag, ow, ru, hd, kd, tb, md, ql, dr, nb, bg, lr, lb, lh), h.1, h.2, fun u' z' e => ⟨e.2, by rw [e.1]; exact keep⟩⟩)⟩
