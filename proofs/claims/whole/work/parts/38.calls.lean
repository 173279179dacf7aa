set_option maxHeartbeats 400000 in
theorem st_ask (l : Launch) (G : va_G) (cB cI cZ : ClassId) (tc : Nat) (a b : Nat → Nat) {cnt : Nat} {u : CS} {v : MS} (hS : sm_S cnt u v) (hc : cnt < 512) (x1 x2 x3 x4 : Int32) : stp l G cB cI cZ tc a b cnt u v yX4_ask wsX4_ask rmX4_ask yX5_ask wsX5_ask rmX5_ask [.int x1, .int x2, .int x3, .int x4] := by
  obtain ⟨g0, r, n, rn, lv, lk, ss, rw, sg, od, aw, tb0, md0, ql0, dr0⟩ := u
  obtain ⟨g, t0, q, ag, ow, ru, hd, kd, tb, md, ql, dr, nb, bg, lr, lb, lh⟩ := v
  obtain ⟨⟨rfl, rfl, rfl, rfl, rfl⟩, ⟨b1, b2, b3, b4, b5⟩, hR, qs, Bn, hQ, hN, hH, hL⟩ := hS
  have hI := sm_px hQ hR
  have hJ := sm_mx hQ hN hR
  have hn6 : n ≤ 6 := hQ.1
  have keep : sm_S (cnt + 1) ((g, r, n, rn, lv, lk, ss, rw, sg, od, aw, tb, md, ql, dr) : CS) ((g, t0, q, ag, ow, ru, hd, kd, tb, md, ql, dr, nb, bg, lr, lb, lh) : MS) := ⟨⟨rfl, rfl, rfl, rfl, rfl⟩, ⟨by omega, by omega, by omega, by omega, by omega⟩, hR, qs, Bn, hQ, hN, hH, hL⟩
  have hlb : ∀ i, i < q → ∃ k : Nat, k < 4001 ∧ lb i = nI k := fun i hi => by obtain ⟨k, k1, k2, k3, -⟩ := hL.2.2.2.1 i hi; exact ⟨k, by omega, k3⟩
  by_cases h : (px_isS x1 && px_isT x2 && px_isT x3 && px_isM x4) = true
  · simp only [Bool.and_eq_true] at h
    obtain ⟨⟨⟨h1, h2⟩, h3⟩, h4⟩ := h
    obtain ⟨x, hx6, rfl⟩ := px_isS_of h1
    obtain ⟨z, hz8, rfl⟩ := px_isT_of h2
    obtain ⟨y, hy8, rfl⟩ := px_isT_of h3
    obtain ⟨k, hk8, rfl⟩ := px_isM_of h4
    have hroom : (px_pl n od (nI x)).isSome = false → n < 6 := fun e => by
      by_cases k0 : kd x = 0
      · exact sm_Q_room hQ hx6 k0
      · rw [(sm_pl_iff hQ hx6).mpr k0] at e; exact absurd e (by decide)
    by_cases k0 : kd x = 0
    · have e1 : ¬ (px_pl n od (nI x)).isSome = true := fun w => (sm_pl_iff hQ hx6).mp w k0
      have kk : ¬ ¬ kd x = 0 := fun w => w k0
      obtain ⟨eh, el⟩ := hH x y k hx6 hy8 hk8
      by_cases c : lv (64 * x + 8 * y + k) = -1
      · have c1 : ¬ ¬ lv (64 * x + 8 * y + k) = -1 := fun w => w c
        have c2 : ¬ ¬ hd (72 * x + 9 * y + (k + 1)) ≤ 0 := fun w => w (by rw [eh, c]; decide)
        have eW : px_way n lv od aw tb md dr x y (k + 1) n = mx_way hd kd tb md dr bg x y (k + 1) (nI (t0 + 1)) := sm_way hQ hH hx6 hy8 (Nat.le_refl n) (by omega) (fun p hp => ⟨fun _ => by have := (hQ.2.2.2.2.2.2.1 _ (hQ.2.2.1 p hp).1).2; omega, fun _ => hp⟩) (fun p hp e => (hQ.2.2.2.2.1 x hx6).mpr ⟨p, hp, e⟩ k0)
        by_cases w0 : px_way n lv od aw tb md dr x y (k + 1) n = 0
        · have w1 := w0
          rw [eW] at w1
          refine ⟨fun u' zz => u' = (g, r, n, rn, upd lv (64 * x + 8 * y + k) (nI z), lk, ss, rw, sg, od, aw, tb, md, ql, dr) ∧ zz = 0, (c_ask_ok l G cB cI cZ tc a rn lv lk ss rw sg od aw tb md ql dr g r n x z y k hx6 hz8 hy8 hk8 hroom hI).mono (fun o w' h => (by rw [if_neg e1, if_neg c1, if_pos w0] at h; exact ⟨_, (g, r, n, rn, upd lv (64 * x + 8 * y + k) (nI z), lk, ss, rw, sg, od, aw, tb, md, ql, dr), h.1, h.2, rfl, rfl⟩)), (m_ask_ok l G cB cI cZ tc b ag ow ru hd kd tb md ql dr nb bg lr lb lh g t0 q x z y k hx6 hz8 hy8 hk8 hJ).mono (fun o w' h => (by rw [if_neg kk, if_neg c2, if_pos w1] at h; exact ⟨_, (g, t0, q, ag, ow, ru, upd hd (72 * x + 9 * y + (k + 1)) (nI (z + 1)), kd, tb, md, ql, dr, nb, bg, lr, lb, lh), h.1, h.2, fun u' z' e => ⟨e.2, by rw [e.1]; exact ⟨⟨rfl, rfl, rfl, rfl, rfl⟩, ⟨by omega, by omega, by omega, by omega, by omega⟩, hR, qs, Bn, hQ, hN, sm_H_take hH hx6 hy8 hk8 hz8, hL⟩⟩⟩))⟩
        · have w1 := w0
          rw [eW] at w1
          have eR := sm_ring (dr := dr) hQ hN hH hR.2.1 hR.2.2.2.2.2 hx6 (px_way n lv od aw tb md dr x y (k + 1) n)
          by_cases r0 : px_cr (px_wo g n rn lv od aw tb md dr) (nI x) (px_way n lv od aw tb md dr x y (k + 1) n) = true
          · have r1 : mx_ld (mx_wo ow ru hd kd tb md dr nb bg) (mx_way hd kd tb md dr bg x y (k + 1) (nI (t0 + 1))) (nI x) = true := by rw [← eW, ← eR]; exact r0
            refine ⟨fun u' zz => u' = (g, r, n, rn, lv, lk, ss, rw, sg, od, aw, tb, md, ql, dr) ∧ zz = 2, (c_ask_ok l G cB cI cZ tc a rn lv lk ss rw sg od aw tb md ql dr g r n x z y k hx6 hz8 hy8 hk8 hroom hI).mono (fun o w' h => (by rw [if_neg e1, if_neg c1, if_neg w0, if_pos r0] at h; exact ⟨_, (g, r, n, rn, lv, lk, ss, rw, sg, od, aw, tb, md, ql, dr), h.1, h.2, rfl, rfl⟩)), (m_ask_ok l G cB cI cZ tc b ag ow ru hd kd tb md ql dr nb bg lr lb lh g t0 q x z y k hx6 hz8 hy8 hk8 hJ).mono (fun o w' h => (by rw [if_neg kk, if_neg c2, if_neg w1, if_pos r1] at h; exact ⟨_, (g, t0, q, ag, ow, ru, hd, kd, tb, md, ql, dr, nb, bg, lr, lb, lh), h.1, h.2, fun u' z' e => ⟨e.2, by rw [e.1]; exact keep⟩⟩))⟩
          · have r1 : ¬ mx_ld (mx_wo ow ru hd kd tb md dr nb bg) (mx_way hd kd tb md dr bg x y (k + 1) (nI (t0 + 1))) (nI x) = true := by rw [← eW, ← eR]; exact r0
            obtain ⟨qs', Bn', hQ'⟩ := sm_Q_add hQ hx6 k0 (by omega) (c := 1) (aw' := upd aw x 0) (md' := upd md x (nI (k + 1))) (nb' := nb) (fun y h => pk_un h) (fun y h => pk_un h) (fun _ _ => rfl) (Or.inl ⟨rfl, pk_us, k, hk8, pk_us⟩)
            have hR' : sm_R ag (upd tb x (nI y)) (upd md x (nI (k + 1))) (upd dr x 0) (upd ql x (nI z)) nb := by
              refine ⟨hR.1, fun j hj => ?_, fun j hj => ?_, fun j hj => ?_, fun j hj => ?_, hR.2.2.2.2.2⟩
              · by_cases e : j = x
                · subst e; rw [pk_us]; exact ⟨y, hy8, rfl⟩
                · rw [pk_un e]; exact hR.2.1 j hj
              · by_cases e : j = x
                · subst e; rw [pk_us]; exact ⟨k + 1, by omega, rfl⟩
                · rw [pk_un e]; exact hR.2.2.1 j hj
              · by_cases e : j = x
                · subst e; rw [pk_us]; exact Or.inl rfl
                · rw [pk_un e]; exact hR.2.2.2.1 j hj
              · by_cases e : j = x
                · subst e; rw [pk_us]; exact ⟨z, hz8, rfl⟩
                · rw [pk_un e]; exact hR.2.2.2.2.1 j hj
            refine ⟨fun u' zz => u' = (g, r, n + 1, rn, lv, lk, ss, rw, sg, upd od n (nI x), upd aw x 0, upd tb x (nI y), upd md x (nI (k + 1)), upd ql x (nI z), upd dr x 0) ∧ zz = 1, (c_ask_ok l G cB cI cZ tc a rn lv lk ss rw sg od aw tb md ql dr g r n x z y k hx6 hz8 hy8 hk8 hroom hI).mono (fun o w' h => (by rw [if_neg e1, if_neg c1, if_neg w0, if_neg r0] at h; exact ⟨_, (g, r, n + 1, rn, lv, lk, ss, rw, sg, upd od n (nI x), upd aw x 0, upd tb x (nI y), upd md x (nI (k + 1)), upd ql x (nI z), upd dr x 0), h.1, h.2, rfl, rfl⟩)), (m_ask_ok l G cB cI cZ tc b ag ow ru hd kd tb md ql dr nb bg lr lb lh g t0 q x z y k hx6 hz8 hy8 hk8 hJ).mono (fun o w' h => (by rw [if_neg kk, if_neg c2, if_neg w1, if_neg r1] at h; exact ⟨_, (g, t0 + 1, q, ag, ow, ru, hd, upd kd x 1, upd tb x (nI y), upd md x (nI (k + 1)), upd ql x (nI z), upd dr x 0, nb, upd bg x (nI (t0 + 1)), lr, lb, lh), h.1, h.2, fun u' z' e => ⟨e.2, by rw [e.1]; exact ⟨⟨rfl, rfl, rfl, rfl, rfl⟩, ⟨by omega, by omega, by omega, by omega, by omega⟩, hR', qs', Bn', hQ', hN, hH, hL⟩⟩⟩))⟩
      · have c2 : ¬ hd (72 * x + 9 * y + (k + 1)) ≤ 0 := by
          rcases el with w | ⟨q, hq, w⟩
          · exact absurd w c
          · rw [eh, w, nI_1]; exact nI_nle (by omega) (by omega)
        refine ⟨fun u' zz => u' = (g, r, n, rn, lv, lk, ss, rw, sg, od, aw, tb, md, ql, dr) ∧ zz = 0, (c_ask_ok l G cB cI cZ tc a rn lv lk ss rw sg od aw tb md ql dr g r n x z y k hx6 hz8 hy8 hk8 hroom hI).mono (fun o w' h => (by rw [if_neg e1, if_pos c] at h; exact ⟨_, (g, r, n, rn, lv, lk, ss, rw, sg, od, aw, tb, md, ql, dr), h.1, h.2, rfl, rfl⟩)), (m_ask_ok l G cB cI cZ tc b ag ow ru hd kd tb md ql dr nb bg lr lb lh g t0 q x z y k hx6 hz8 hy8 hk8 hJ).mono (fun o w' h => (by rw [if_neg kk, if_pos c2] at h; exact ⟨_, (g, t0, q, ag, ow, ru, hd, kd, tb, md, ql, dr, nb, bg, lr, lb, lh), h.1, h.2, fun u' z' e => ⟨e.2, by rw [e.1]; exact keep⟩⟩))⟩
    · have e1 : (px_pl n od (nI x)).isSome = true := (sm_pl_iff hQ hx6).mpr k0
      refine ⟨fun u' zz => u' = (g, r, n, rn, lv, lk, ss, rw, sg, od, aw, tb, md, ql, dr) ∧ zz = -1, (c_ask_ok l G cB cI cZ tc a rn lv lk ss rw sg od aw tb md ql dr g r n x z y k hx6 hz8 hy8 hk8 hroom hI).mono (fun o w' h => (by rw [if_pos e1] at h; exact ⟨_, (g, r, n, rn, lv, lk, ss, rw, sg, od, aw, tb, md, ql, dr), h.1, h.2, rfl, rfl⟩)), (m_ask_ok l G cB cI cZ tc b ag ow ru hd kd tb md ql dr nb bg lr lb lh g t0 q x z y k hx6 hz8 hy8 hk8 hJ).mono (fun o w' h => (by rw [if_pos k0] at h; exact ⟨_, (g, t0, q, ag, ow, ru, hd, kd, tb, md, ql, dr, nb, bg, lr, lb, lh), h.1, h.2, fun u' z' e => ⟨e.2, by rw [e.1]; exact keep⟩⟩))⟩
  · have h : (px_isS x1 && px_isT x2 && px_isT x3 && px_isM x4) = false := by simpa using h
    exact ⟨fun u' zz => u' = (g, r, n, rn, lv, lk, ss, rw, sg, od, aw, tb, md, ql, dr) ∧ zz = -1, (c_ask_no l G cB cI cZ tc a rn lv lk ss rw sg od aw tb md ql dr g r n x1 x2 x3 x4 h).mono (fun o w' h => ⟨_, (g, r, n, rn, lv, lk, ss, rw, sg, od, aw, tb, md, ql, dr), h.1, h.2, rfl, rfl⟩), (m_ask_no l G cB cI cZ tc b ag ow ru hd kd tb md ql dr nb bg lr lb lh g t0 q x1 x2 x3 x4 h).mono (fun o w' h => ⟨_, (g, t0, q, ag, ow, ru, hd, kd, tb, md, ql, dr, nb, bg, lr, lb, lh), h.1, h.2, fun u' z' e => ⟨e.2, by rw [e.1]; exact keep⟩⟩)⟩

set_option maxHeartbeats 400000 in
theorem st_await (l : Launch) (G : va_G) (cB cI cZ : ClassId) (tc : Nat) (a b : Nat → Nat) {cnt : Nat} {u : CS} {v : MS} (hS : sm_S cnt u v) (hc : cnt < 512) (x1 x2 : Int32) : stp l G cB cI cZ tc a b cnt u v yX4_await wsX4_await rmX4_await yX5_await wsX5_await rmX5_await [.int x1, .int x2] := by
  obtain ⟨g0, r, n, rn, lv, lk, ss, rw, sg, od, aw, tb0, md0, ql0, dr0⟩ := u
  obtain ⟨g, t0, q, ag, ow, ru, hd, kd, tb, md, ql, dr, nb, bg, lr, lb, lh⟩ := v
  obtain ⟨⟨rfl, rfl, rfl, rfl, rfl⟩, ⟨b1, b2, b3, b4, b5⟩, hR, qs, Bn, hQ, hN, hH, hL⟩ := hS
  have hI := sm_px hQ hR
  have hJ := sm_mx hQ hN hR
  have hn6 : n ≤ 6 := hQ.1
  have keep : sm_S (cnt + 1) ((g, r, n, rn, lv, lk, ss, rw, sg, od, aw, tb, md, ql, dr) : CS) ((g, t0, q, ag, ow, ru, hd, kd, tb, md, ql, dr, nb, bg, lr, lb, lh) : MS) := ⟨⟨rfl, rfl, rfl, rfl, rfl⟩, ⟨by omega, by omega, by omega, by omega, by omega⟩, hR, qs, Bn, hQ, hN, hH, hL⟩
  have hlb : ∀ i, i < q → ∃ k : Nat, k < 4001 ∧ lb i = nI k := fun i hi => by obtain ⟨k, k1, k2, k3, -⟩ := hL.2.2.2.1 i hi; exact ⟨k, by omega, k3⟩
  by_cases h : (px_isS x1 && px_was g x2) = true
  · simp only [Bool.and_eq_true] at h
    obtain ⟨h1, h2⟩ := h
    obtain ⟨x, hx6, rfl⟩ := px_isS_of h1
    obtain ⟨k, k1, k2, rfl⟩ := px_was_of (by omega) h2
    by_cases k0 : kd x = 0
    · have e1 : (px_pl n od (nI x)).isSome = false := by rw [sm_pl_none hQ hx6 k0]; rfl
      by_cases c : ru k = 0
      · have c1 : rn k = -1 := by
          rcases hN.2.1 k k1 k2 with w | w
          · exact w.2
          · rw [w.1] at c; exact absurd c (by decide)
        refine ⟨fun u' zz => u' = (g, r, n, rn, lv, lk, ss, rw, sg, od, aw, tb, md, ql, dr) ∧ zz = 0, (c_await_ok l G cB cI cZ tc a rn lv lk ss rw sg od aw tb md ql dr g r n x k hx6 k1 k2 (sm_Q_room hQ hx6 k0) e1 hI).mono (fun o w' h => (by rw [if_pos c1] at h; exact ⟨_, (g, r, n, rn, lv, lk, ss, rw, sg, od, aw, tb, md, ql, dr), h.1, h.2, rfl, rfl⟩)), (m_await_ok l G cB cI cZ tc b ag ow ru hd kd tb md ql dr nb bg lr lb lh g t0 q x k hx6 k1 k2 k0 hJ).mono (fun o w' h => (by rw [if_pos c] at h; exact ⟨_, (g, t0, q, ag, ow, ru, hd, kd, tb, md, ql, dr, nb, bg, lr, lb, lh), h.1, h.2, fun u' z' e => ⟨e.2, by rw [e.1]; exact keep⟩⟩))⟩
      · have c1 : ¬ rn k = -1 ∧ rn k = ow k := by
          rcases hN.2.1 k k1 k2 with w | w
          · exact absurd w.1 c
          · obtain ⟨j, hj, ej⟩ := hN.2.2 k (by omega)
            exact ⟨by rw [w.2, ej]; exact px_nm1 j (by omega), w.2⟩
        have eR := sm_ring (dr := dr) hQ hN hH hR.2.1 hR.2.2.2.2.2 hx6 (1 <<< (rn k &&& 31))
        by_cases r0 : px_cr (px_wo g n rn lv od aw tb md dr) (nI x) (1 <<< (rn k &&& 31)) = true
        · have r1 : mx_ld (mx_wo ow ru hd kd tb md dr nb bg) (1 <<< (ow k &&& 31)) (nI x) = true := by rw [← c1.2, ← eR]; exact r0
          refine ⟨fun u' zz => u' = (g, r, n, rn, lv, lk, ss, rw, sg, od, aw, tb, md, ql, dr) ∧ zz = 2, (c_await_ok l G cB cI cZ tc a rn lv lk ss rw sg od aw tb md ql dr g r n x k hx6 k1 k2 (sm_Q_room hQ hx6 k0) e1 hI).mono (fun o w' h => (by rw [if_neg c1.1, if_pos r0] at h; exact ⟨_, (g, r, n, rn, lv, lk, ss, rw, sg, od, aw, tb, md, ql, dr), h.1, h.2, rfl, rfl⟩)), (m_await_ok l G cB cI cZ tc b ag ow ru hd kd tb md ql dr nb bg lr lb lh g t0 q x k hx6 k1 k2 k0 hJ).mono (fun o w' h => (by rw [if_neg c, if_pos r1] at h; exact ⟨_, (g, t0, q, ag, ow, ru, hd, kd, tb, md, ql, dr, nb, bg, lr, lb, lh), h.1, h.2, fun u' z' e => ⟨e.2, by rw [e.1]; exact keep⟩⟩))⟩
        · have r1 : ¬ mx_ld (mx_wo ow ru hd kd tb md dr nb bg) (1 <<< (ow k &&& 31)) (nI x) = true := by rw [← c1.2, ← eR]; exact r0
          obtain ⟨qs', Bn', hQ'⟩ := sm_Q_add hQ hx6 k0 (by omega) (c := 2) (aw' := upd aw x (nI k)) (md' := md) (nb' := upd nb x (nI k)) (fun y h => pk_un h) (fun _ _ => rfl) (fun y h => pk_un h) (Or.inr ⟨rfl, k, k1, k2, pk_us, pk_us⟩)
          have hR' : sm_R ag tb md dr ql (upd nb x (nI k)) := by
            refine ⟨hR.1, hR.2.1, hR.2.2.1, hR.2.2.2.1, hR.2.2.2.2.1, fun j hj => ?_⟩
            by_cases e : j = x
            · subst e; rw [pk_us]; exact ⟨k, by omega, rfl⟩
            · rw [pk_un e]; exact hR.2.2.2.2.2 j hj
          refine ⟨fun u' zz => u' = (g, r, n + 1, rn, lv, lk, ss, rw, sg, upd od n (nI x), upd aw x (nI k), tb, md, ql, dr) ∧ zz = 1, (c_await_ok l G cB cI cZ tc a rn lv lk ss rw sg od aw tb md ql dr g r n x k hx6 k1 k2 (sm_Q_room hQ hx6 k0) e1 hI).mono (fun o w' h => (by rw [if_neg c1.1, if_neg r0] at h; exact ⟨_, (g, r, n + 1, rn, lv, lk, ss, rw, sg, upd od n (nI x), upd aw x (nI k), tb, md, ql, dr), h.1, h.2, rfl, rfl⟩)), (m_await_ok l G cB cI cZ tc b ag ow ru hd kd tb md ql dr nb bg lr lb lh g t0 q x k hx6 k1 k2 k0 hJ).mono (fun o w' h => (by rw [if_neg c, if_neg r1] at h; exact ⟨_, (g, t0 + 1, q, ag, ow, ru, hd, upd kd x 2, tb, md, ql, dr, upd nb x (nI k), upd bg x (nI (t0 + 1)), lr, lb, lh), h.1, h.2, fun u' z' e => ⟨e.2, by rw [e.1]; exact ⟨⟨rfl, rfl, rfl, rfl, rfl⟩, ⟨by omega, by omega, by omega, by omega, by omega⟩, hR', qs', Bn', hQ', hN, hH, hL⟩⟩⟩))⟩
    · have e1 : (px_pl n od (nI x)).isSome = true := (sm_pl_iff hQ hx6).mpr k0
      exact ⟨fun u' zz => u' = (g, r, n, rn, lv, lk, ss, rw, sg, od, aw, tb, md, ql, dr) ∧ zz = -1, (c_await_no l G cB cI cZ tc a rn lv lk ss rw sg od aw tb md ql dr g r n (nI x) (nI k) hn6 (by rw [e1]; simp)).mono (fun o w' h => ⟨_, (g, r, n, rn, lv, lk, ss, rw, sg, od, aw, tb, md, ql, dr), h.1, h.2, rfl, rfl⟩), (m_await_no l G cB cI cZ tc b ag ow ru hd kd tb md ql dr nb bg lr lb lh g t0 q (nI x) (nI k) (by rw [nI_clamp (show x < 2 ^ 31 by omega), decide_eq_false k0]; simp)).mono (fun o w' h => ⟨_, (g, t0, q, ag, ow, ru, hd, kd, tb, md, ql, dr, nb, bg, lr, lb, lh), h.1, h.2, fun u' z' e => ⟨e.2, by rw [e.1]; exact keep⟩⟩)⟩
  · have h : (px_isS x1 && px_was g x2) = false := by simpa using h
    exact ⟨fun u' zz => u' = (g, r, n, rn, lv, lk, ss, rw, sg, od, aw, tb, md, ql, dr) ∧ zz = -1, (c_await_no l G cB cI cZ tc a rn lv lk ss rw sg od aw tb md ql dr g r n x1 x2 hn6 (by rw [h]; rfl)).mono (fun o w' h => ⟨_, (g, r, n, rn, lv, lk, ss, rw, sg, od, aw, tb, md, ql, dr), h.1, h.2, rfl, rfl⟩), (m_await_no l G cB cI cZ tc b ag ow ru hd kd tb md ql dr nb bg lr lb lh g t0 q x1 x2 (by rw [h]; rfl)).mono (fun o w' h => ⟨_, (g, t0, q, ag, ow, ru, hd, kd, tb, md, ql, dr, nb, bg, lr, lb, lh), h.1, h.2, fun u' z' e => ⟨e.2, by rw [e.1]; exact keep⟩⟩)⟩

set_option maxHeartbeats 400000 in
theorem st_next (l : Launch) (G : va_G) (cB cI cZ : ClassId) (tc : Nat) (a b : Nat → Nat) {cnt : Nat} {u : CS} {v : MS} (hS : sm_S cnt u v) (hc : cnt < 512) : stp l G cB cI cZ tc a b cnt u v yX4_next wsX4_next rmX4_next yX5_next wsX5_next rmX5_next [] := by
  obtain ⟨g0, r, n, rn, lv, lk, ss, rw, sg, od, aw, tb0, md0, ql0, dr0⟩ := u
  obtain ⟨g, t0, q, ag, ow, ru, hd, kd, tb, md, ql, dr, nb, bg, lr, lb, lh⟩ := v
  obtain ⟨⟨rfl, rfl, rfl, rfl, rfl⟩, ⟨b1, b2, b3, b4, b5⟩, hR, qs, Bn, hQ, hN, hH, hL⟩ := hS
  have hI := sm_px hQ hR
  have hJ := sm_mx hQ hN hR
  have hn6 : n ≤ 6 := hQ.1
  have keep : sm_S (cnt + 1) ((g, r, n, rn, lv, lk, ss, rw, sg, od, aw, tb, md, ql, dr) : CS) ((g, t0, q, ag, ow, ru, hd, kd, tb, md, ql, dr, nb, bg, lr, lb, lh) : MS) := ⟨⟨rfl, rfl, rfl, rfl, rfl⟩, ⟨by omega, by omega, by omega, by omega, by omega⟩, hR, qs, Bn, hQ, hN, hH, hL⟩
  have hlb : ∀ i, i < q → ∃ k : Nat, k < 4001 ∧ lb i = nI k := fun i hi => by obtain ⟨k, k1, k2, k3, -⟩ := hL.2.2.2.1 i hi; exact ⟨k, by omega, k3⟩
  have wo : ∀ k, k < n → px_wo g n rn lv od aw tb md dr (od k) = mx_wo ow ru hd kd tb md dr nb bg (qs k) := fun k hk => by rw [(hQ.2.2.1 k hk).2]; exact sm_wo hQ hN hH hR.2.1 (hQ.2.2.1 k hk).1
  cases hf : px_fst (fun k => decide (px_wo g n rn lv od aw tb md dr (od k) = 0)) n with
  | none =>
    refine ⟨fun u' zz => u' = (g, r, n, rn, lv, lk, ss, rw, sg, od, aw, tb, md, ql, dr) ∧ zz = -1, (c_next l G cB cI cZ tc a rn lv lk ss rw sg od aw tb md ql dr g r n hI).mono (fun o w' h => by rw [hf] at h; exact ⟨_, (g, r, n, rn, lv, lk, ss, rw, sg, od, aw, tb, md, ql, dr), h.1, h.2, rfl, rfl⟩), (m_next l G cB cI cZ tc b ag ow ru hd kd tb md ql dr nb bg lr lb lh g t0 q hJ).mono (fun o w' h => ?_)⟩
    obtain ⟨i, hi, hall, hh⟩ := h
    rcases hh with ⟨-, ho, hw⟩ | ⟨hi6, x, hx6, hwt, hz, -⟩
    · exact ⟨_, (g, t0, q, ag, ow, ru, hd, kd, tb, md, ql, dr, nb, bg, lr, lb, lh), ho, hw, fun u' z' e => ⟨e.2, by rw [e.1]; exact keep⟩⟩
    · have e := sm_wt hQ (by omega) hwt
      by_cases c : i < n
      · rw [if_pos c] at e
        cases e
        have := px_fst_no hf i c
        have := of_decide_eq_false this
        rw [wo i c] at this
        exact absurd hz this
      · rw [if_neg c] at e; cases e
  | some p =>
    have hp := px_fst_lt hf
    have hs : mx_wo ow ru hd kd tb md dr nb bg (qs p) = 0 := by
      have := of_decide_eq_true (px_fst_sat hf)
      rw [wo p hp] at this; exact this
    have q6 := (hQ.2.2.1 p hp).1
    have qe := (hQ.2.2.1 p hp).2
    have hmin : ∀ j, j < p → ¬ mx_wo ow ru hd kd tb md dr nb bg (qs j) = 0 := fun j hj => by
      have := of_decide_eq_false (px_fst_min hf j hj)
      rw [wo j (by omega)] at this; exact this
    have k0 : kd (qs p) ≠ 0 := (hQ.2.2.2.2.1 _ q6).mpr ⟨p, hp, rfl⟩
    obtain ⟨qs', hQ'⟩ := sm_Q_rm hQ q6 k0
    -- the reference finds the same
    have find : ∀ i, i ≤ 6 → (∀ j, j < i → ∃ so, mx_wtR kd bg (nI j) so ∧ (so = none ∨ ∃ x, x < 6 ∧ so = some x ∧ ¬ mx_wo ow ru hd kd tb md dr nb bg x = 0)) → i ≤ p := fun i hi hall => by
      rcases Nat.lt_or_ge p i with c | c
      · obtain ⟨so, hso, h1⟩ := hall p c
        have e := sm_wt hQ (by omega) hso
        rw [if_pos hp] at e
        subst e
        rcases h1 with w | ⟨x, -, w, w2⟩
        · cases w
        · cases w; exact absurd hs w2
      · exact c
    have cq : ∀ {x : Nat}, x < 6 → od p = nI x → x = qs p := fun {x} hx e => by
      rw [qe] at e; exact (sm_nI (by omega) (by omega) e).symm
    rcases hQ.2.2.2.2.2.2.2.2.1 (qs p) q6 with w | ⟨w, w1, kk, kk8, w2⟩ | ⟨w, kk, kk1, kk2, w1, w2⟩
    · exact absurd w k0
    · by_cases d : dr (qs p) = 0
      · obtain ⟨y, hy8, ey⟩ := hR.2.1 _ q6
        obtain ⟨z, hz8, ez⟩ := hR.2.2.2.2.1 _ q6
        refine ⟨fun u' zz => u' = (g, r, (px_rm n od (nI (qs p))).1, rn, upd lv (64 * qs p + 8 * y + kk) (nI z), lk, ss, rw, sg, (px_rm n od (nI (qs p))).2, aw, tb, md, ql, dr) ∧ zz = nI (qs p), (c_next l G cB cI cZ tc a rn lv lk ss rw sg od aw tb md ql dr g r n hI).mono (fun o w' h => ?_), (m_next l G cB cI cZ tc b ag ow ru hd kd tb md ql dr nb bg lr lb lh g t0 q hJ).mono (fun o w' h => ?_)⟩
        · rw [hf] at h
          obtain ⟨x, hx6, ex, h⟩ := h
          have := cq hx6 ex
          subst this
          rw [if_pos w1, if_pos d] at h
          obtain ⟨y2, k2, z2, a1, a2, a3, a4, a5, a6, ho, hw⟩ := h
          have e1 := sm_nI (by omega) (by omega) (a4.symm.trans ey)
          have e2 := sm_nI (by omega) (by omega) (a5.symm.trans w2)
          have e3 := sm_nI (by omega) (by omega) (a6.symm.trans ez)
          have e2 : k2 = kk := by omega
          subst e1; subst e2; subst e3
          exact ⟨_, (g, r, (px_rm n od (nI (qs p))).1, rn, upd lv (64 * qs p + 8 * y2 + k2) (nI z2), lk, ss, rw, sg, (px_rm n od (nI (qs p))).2, aw, tb, md, ql, dr), ho, hw, rfl, rfl⟩
        · obtain ⟨i, hi, hall, hh⟩ := h
          have hip := find i hi hall
          rcases hh with ⟨h6, -⟩ | ⟨hi6, x, hx6, hwt, hz, h⟩
          · omega
          · have e := sm_wt hQ (by omega) hwt
            rw [if_pos (by omega)] at e
            cases e
            have : i = p := by
              rcases Nat.lt_or_ge i p with c | c
              · exact absurd hz (hmin i c)
              · omega
            subst this
            rw [if_pos w, if_pos d] at h
            obtain ⟨y2, k2, z2, a1, a2, a3, a4, a5, a6, ho, hw⟩ := h
            have e1 := sm_nI (by omega) (by omega) (a4.symm.trans ey)
            have e2 := sm_nI (by omega) (by omega) (a5.symm.trans w2)
            have e3 := sm_nI (by omega) (by omega) (a6.symm.trans ez)
            subst e1; subst e2; subst e3
            exact ⟨_, (g, t0, q, ag, ow, ru, upd hd (72 * qs i + 9 * y2 + (kk + 1)) (nI (z2 + 1)), upd kd (qs i) 0, tb, md, ql, dr, nb, bg, lr, lb, lh), ho, hw, fun u' z' e => ⟨e.2, by rw [e.1]; exact ⟨⟨rfl, rfl, rfl, rfl, rfl⟩, ⟨by omega, by omega, by omega, by omega, by omega⟩, hR, qs', Bn, hQ', hN, sm_H_take hH q6 hy8 kk8 hz8, hL⟩⟩⟩
      · refine ⟨fun u' zz => u' = (g, r, (px_rm n od (nI (qs p))).1, rn, lv, lk, ss, rw, sg, (px_rm n od (nI (qs p))).2, aw, tb, md, ql, dr) ∧ zz = nI (qs p) + 8, (c_next l G cB cI cZ tc a rn lv lk ss rw sg od aw tb md ql dr g r n hI).mono (fun o w' h => ?_), (m_next l G cB cI cZ tc b ag ow ru hd kd tb md ql dr nb bg lr lb lh g t0 q hJ).mono (fun o w' h => ?_)⟩
        · rw [hf] at h
          obtain ⟨x, hx6, ex, h⟩ := h
          have := cq hx6 ex
          subst this
          rw [if_pos w1, if_neg d] at h
          exact ⟨_, (g, r, (px_rm n od (nI (qs p))).1, rn, lv, lk, ss, rw, sg, (px_rm n od (nI (qs p))).2, aw, tb, md, ql, dr), h.1, h.2, rfl, rfl⟩
        · obtain ⟨i, hi, hall, hh⟩ := h
          have hip := find i hi hall
          rcases hh with ⟨h6, -⟩ | ⟨hi6, x, hx6, hwt, hz, h⟩
          · omega
          · have e := sm_wt hQ (by omega) hwt
            rw [if_pos (by omega)] at e
            cases e
            have : i = p := by
              rcases Nat.lt_or_ge i p with c | c
              · exact absurd hz (hmin i c)
              · omega
            subst this
            rw [if_pos w, if_neg d] at h
            exact ⟨_, (g, t0, q, ag, ow, ru, hd, upd kd (qs i) 0, tb, md, ql, dr, nb, bg, lr, lb, lh), h.1, h.2, fun u' z' e => ⟨e.2, by rw [e.1]; exact ⟨⟨rfl, rfl, rfl, rfl, rfl⟩, ⟨by omega, by omega, by omega, by omega, by omega⟩, hR, qs', Bn, hQ', hN, hH, hL⟩⟩⟩
    · have aw0 : ¬ aw (qs p) = 0 := by rw [w1]; exact nI_ne0 (by omega) (by omega)
      have w' : ¬ kd (qs p) = 1 := by rw [w]; decide
      refine ⟨fun u' zz => u' = (g, r, (px_rm n od (nI (qs p))).1, rn, lv, lk, ss, rw, sg, (px_rm n od (nI (qs p))).2, aw, tb, md, ql, dr) ∧ zz = nI (qs p), (c_next l G cB cI cZ tc a rn lv lk ss rw sg od aw tb md ql dr g r n hI).mono (fun o w' h => ?_), (m_next l G cB cI cZ tc b ag ow ru hd kd tb md ql dr nb bg lr lb lh g t0 q hJ).mono (fun o w' h => ?_)⟩
      · rw [hf] at h
        obtain ⟨x, hx6, ex, h⟩ := h
        have := cq hx6 ex
        subst this
        rw [if_neg aw0] at h
        exact ⟨_, (g, r, (px_rm n od (nI (qs p))).1, rn, lv, lk, ss, rw, sg, (px_rm n od (nI (qs p))).2, aw, tb, md, ql, dr), h.1, h.2, rfl, rfl⟩
      · obtain ⟨i, hi, hall, hh⟩ := h
        have hip := find i hi hall
        rcases hh with ⟨h6, -⟩ | ⟨hi6, x, hx6, hwt, hz, h⟩
        · omega
        · have e := sm_wt hQ (by omega) hwt
          rw [if_pos (by omega)] at e
          cases e
          have : i = p := by
            rcases Nat.lt_or_ge i p with c | c
            · exact absurd hz (hmin i c)
            · omega
          subst this
          rw [if_neg w'] at h
          exact ⟨_, (g, t0, q, ag, ow, ru, hd, upd kd (qs i) 0, tb, md, ql, dr, nb, bg, lr, lb, lh), h.1, h.2, fun u' z' e => ⟨e.2, by rw [e.1]; exact ⟨⟨rfl, rfl, rfl, rfl, rfl⟩, ⟨by omega, by omega, by omega, by omega, by omega⟩, hR, qs', Bn, hQ', hN, hH, hL⟩⟩⟩

set_option maxHeartbeats 400000 in
theorem st_lock (l : Launch) (G : va_G) (cB cI cZ : ClassId) (tc : Nat) (a b : Nat → Nat) {cnt : Nat} {u : CS} {v : MS} (hS : sm_S cnt u v) (hc : cnt < 512) (x1 x2 x3 : Int32) : stp l G cB cI cZ tc a b cnt u v yX4_lock wsX4_lock rmX4_lock yX5_lock wsX5_lock rmX5_lock [.int x1, .int x2, .int x3] := by
  obtain ⟨g0, r, n, rn, lv, lk, ss, rw, sg, od, aw, tb0, md0, ql0, dr0⟩ := u
  obtain ⟨g, t0, q, ag, ow, ru, hd, kd, tb, md, ql, dr, nb, bg, lr, lb, lh⟩ := v
  obtain ⟨⟨rfl, rfl, rfl, rfl, rfl⟩, ⟨b1, b2, b3, b4, b5⟩, hR, qs, Bn, hQ, hN, hH, hL⟩ := hS
  have hI := sm_px hQ hR
  have hJ := sm_mx hQ hN hR
  have hn6 : n ≤ 6 := hQ.1
  have keep : sm_S (cnt + 1) ((g, r, n, rn, lv, lk, ss, rw, sg, od, aw, tb, md, ql, dr) : CS) ((g, t0, q, ag, ow, ru, hd, kd, tb, md, ql, dr, nb, bg, lr, lb, lh) : MS) := ⟨⟨rfl, rfl, rfl, rfl, rfl⟩, ⟨by omega, by omega, by omega, by omega, by omega⟩, hR, qs, Bn, hQ, hN, hH, hL⟩
  have hlb : ∀ i, i < q → ∃ k : Nat, k < 4001 ∧ lb i = nI k := fun i hi => by obtain ⟨k, k1, k2, k3, -⟩ := hL.2.2.2.1 i hi; exact ⟨k, by omega, k3⟩
  have hin : mx_in x3 1 2 = (!decide (x3 < 1) && decide (x3 ≤ 2)) := by
    unfold mx_in
    have : (!decide (2 < x3)) = decide (x3 ≤ 2) := by
      by_cases c : x3 ≤ 2
      · rw [decide_eq_true c, decide_eq_false (Int32.not_lt.mpr c)]; rfl
      · rw [decide_eq_false c, decide_eq_true (Int32.not_le.mp c)]; rfl
    rw [this]
  have hrr : (!decide (px_run g rn x1 = -1)) = mx_run g ru x1 := by
    unfold px_run
    by_cases c : px_was g x1 = true
    · obtain ⟨k, k1, k2, rfl⟩ := px_was_of (by omega) c
      rw [mx_run_nI (by omega) k1 k2, if_pos c, nI_clamp (by omega)]
      rcases hN.2.1 k k1 k2 with w | w
      · rw [w.1, w.2]; rfl
      · obtain ⟨j, hj, ej⟩ := hN.2.2 k (by omega)
        rw [w.1, w.2, ej, decide_eq_false (px_nm1 j (by omega))]; rfl
    · rw [if_neg c]
      have c : px_was g x1 = false := by simpa using c
      rw [mx_run, c]; rfl
  by_cases h : (mx_run g ru x1 && px_isR x2 && mx_in x3 1 2) = true
  · simp only [Bool.and_eq_true] at h
    obtain ⟨⟨h1, hrow⟩, hst⟩ := h
    have hw : px_was g x1 = true := by rw [mx_run, Bool.and_eq_true] at h1; exact h1.1
    obtain ⟨k, k1, k2, rfl⟩ := px_was_of (by omega) hw
    rw [mx_run_nI (by omega) k1 k2] at h1
    have hru : ¬ ru k = 0 := by simpa using h1
    have hx3 : ¬ x3 < 1 ∧ x3 ≤ 2 := by rw [hin] at hst; simpa using hst
    have h12 : x3 = 1 ∨ x3 = 2 := by
      have a1 : ¬ x3 < 0 := fun w => hx3.1 (Int32.lt_trans w (by decide))
      have a2 : ¬ nI 3 ≤ x3 := fun w => absurd (Int32.le_trans w hx3.2) (by decide)
      obtain ⟨j, hj, rfl⟩ := px_rng (n := 3) (by decide) a1 a2
      rcases (show j = 0 ∨ j = 1 ∨ j = 2 by omega) with rfl | rfl | rfl
      · exact absurd (by decide) hx3.1
      · exact Or.inl rfl
      · exact Or.inr rfl
    obtain ⟨j, hj6, ej⟩ := hN.2.2 k (by omega)
    have ero : rn k = ow k := by
      rcases hN.2.1 k k1 k2 with w | w
      · exact absurd w.1 hru
      · exact w.2
    have hrn : ¬ rn k = -1 := by rw [ero, ej]; exact px_nm1 j (by omega)
    have ejc : (ow k).toNatClampNeg = j := by rw [ej]; exact nI_clamp (by omega)
    by_cases k0 : kd j = 0
    · have e1 : ¬ (px_pl n od (rn k)).isSome = true := by rw [ero, ej]; exact fun w => (sm_pl_iff hQ hj6).mp w k0
      have e2 : ¬ ¬ kd (ow k).toNatClampNeg = 0 := by rw [ejc]; exact fun w => w k0
      by_cases s0 : px_any (px_sfP ss rw sg (rn k) x2 x3) r = true
      · refine ⟨fun u' zz => u' = (g, r, n, rn, lv, lk, ss, rw, sg, od, aw, tb, md, ql, dr) ∧ zz = 0, (c_lock_ok l G cB cI cZ tc a rn lv lk ss rw sg od aw tb md ql dr g r n k x2 x3 (by omega) hn6 (by omega) k1 k2 hrn hrow hx3.1 hx3.2).mono (fun o w' h => by rw [if_neg e1, if_pos s0] at h; exact ⟨_, (g, r, n, rn, lv, lk, ss, rw, sg, od, aw, tb, md, ql, dr), h.1, h.2, rfl, rfl⟩), (m_lock_ok l G cB cI cZ tc b ag ow ru hd kd tb md ql dr nb bg lr lb lh g t0 q k x2 x3 (by omega) hlb k1 k2 hru hrow hst hJ).mono (fun o w' h => ?_)⟩
        rw [if_neg e2] at h
        obtain ⟨c, lr1, lb1, lh1, lst, bb, mn, hsh, hwk, h⟩ := h
        obtain ⟨l1, l2, l3⟩ := sm_L_model hL hsh (by omega)
        obtain ⟨m1, m2, m3⟩ := sm_lock hN l2 l3 k1 k2 hru hwk
        rw [if_pos (by rw [← m1]; exact s0)] at h
        exact ⟨_, (g, t0, c, ag, ow, ru, hd, kd, tb, md, ql, dr, nb, bg, lr1, lb1, lh1), h.1, h.2, fun u' z' e => ⟨e.2, by rw [e.1]; exact ⟨⟨rfl, rfl, rfl, rfl, rfl⟩, ⟨by omega, by omega, by omega, by omega, by omega⟩, hR, qs, Bn, hQ, hN, hH, l2⟩⟩⟩
      · by_cases c0 : px_lc r lk ss rw sg (rn k) x2 x3 = -1
        · have c1 : ¬ ¬ px_lc r lk ss rw sg (rn k) x2 x3 = -1 := fun w => w c0
          refine ⟨fun u' zz => zz = 0 ∧ ((∃ i, i < r ∧ px_foundAt lk rw (nI k) x2 i ∧ u' = (g, r, n, rn, lv, lk, ss, rw, upd sg i x3, od, aw, tb, md, ql, dr)) ∨ (∃ p, p ≤ r ∧ px_placeAt r lk rw (nI k) x2 p ∧ u' = (g, r + 1, n, rn, lv, (px_put p (nI k) (rn k) x2 x3 (px_sh r p (lk, ss, rw, sg))).1, (px_put p (nI k) (rn k) x2 x3 (px_sh r p (lk, ss, rw, sg))).2.1, (px_put p (nI k) (rn k) x2 x3 (px_sh r p (lk, ss, rw, sg))).2.2.1, (px_put p (nI k) (rn k) x2 x3 (px_sh r p (lk, ss, rw, sg))).2.2.2, od, aw, tb, md, ql, dr))), (c_lock_ok l G cB cI cZ tc a rn lv lk ss rw sg od aw tb md ql dr g r n k x2 x3 (by omega) hn6 (by omega) k1 k2 hrn hrow hx3.1 hx3.2).mono (fun o w' h => ?_), (m_lock_ok l G cB cI cZ tc b ag ow ru hd kd tb md ql dr nb bg lr lb lh g t0 q k x2 x3 (by omega) hlb k1 k2 hru hrow hst hJ).mono (fun o w' h => ?_)⟩
          · rw [if_neg e1, if_neg s0, if_neg c1] at h
            obtain ⟨ho, h | h⟩ := h
            · obtain ⟨i, hi, hfa, hw⟩ := h
              exact ⟨_, (g, r, n, rn, lv, lk, ss, rw, upd sg i x3, od, aw, tb, md, ql, dr), ho, hw, rfl, Or.inl ⟨i, hi, hfa, rfl⟩⟩
            · obtain ⟨p, hp, hpa, hw⟩ := h
              exact ⟨_, (g, r + 1, n, rn, lv, (px_put p (nI k) (rn k) x2 x3 (px_sh r p (lk, ss, rw, sg))).1, (px_put p (nI k) (rn k) x2 x3 (px_sh r p (lk, ss, rw, sg))).2.1, (px_put p (nI k) (rn k) x2 x3 (px_sh r p (lk, ss, rw, sg))).2.2.1, (px_put p (nI k) (rn k) x2 x3 (px_sh r p (lk, ss, rw, sg))).2.2.2, od, aw, tb, md, ql, dr), ho, hw, rfl, Or.inr ⟨p, hp, hpa, rfl⟩⟩
          · rw [if_neg e2] at h
            obtain ⟨c, lr1, lb1, lh1, lst, bb, mn, hsh, hwk, h⟩ := h
            obtain ⟨l1, l2, l3⟩ := sm_L_model hL hsh (by omega)
            obtain ⟨m1, m2, m3⟩ := sm_lock hN l2 l3 k1 k2 hru hwk
            rw [if_neg (by rw [← m1]; exact s0)] at h
            rcases m2 with m2 | m2
            · rw [if_neg m2.2] at h
              rcases m3 with ⟨m3, m4⟩ | ⟨j2, i2, hj2, hi2, m5, m6, m7, m8, m9⟩
              · rw [if_neg (show ¬ 0 ≤ mn by rw [m3]; decide)] at h
                have hno : ∀ j, j < c → ¬ (lr1 j = x2 ∧ lb1 j = nI k) := fun j hj w => by
                  obtain ⟨i, d1, d2, d3, -⟩ := l2.2.2.2.2.2.2 j hj (l3 j hj)
                  exact m4 i d1 ⟨by rw [d2]; exact w.2, by rw [d3]; exact w.1⟩
                refine ⟨_, (g, t0, c + 1, ag, ow, ru, hd, kd, tb, md, ql, dr, nb, bg, upd lr1 c x2, upd lb1 c (nI k), upd lh1 c x3), h.1, h.2, fun u' z' e => ⟨e.1, ?_⟩⟩
                rcases e.2 with ⟨i, hi, hfa, rfl⟩ | ⟨p, hp, hpa, rfl⟩
                · exact absurd ⟨hfa.1, hfa.2.1⟩ (m4 i hi)
                · exact ⟨⟨rfl, rfl, rfl, rfl, rfl⟩, ⟨by omega, by omega, by omega, by omega, by omega⟩, hR, qs, Bn, hQ, hN, hH, sm_L_put l2 (by omega) k1 k2 hru h12 hp hpa hno⟩
              · rw [if_pos (show 0 ≤ mn by rw [m5]; exact nI_pos' (by omega)), m5, nI_clamp (by omega)] at h
                refine ⟨_, (g, t0, c, ag, ow, ru, hd, kd, tb, md, ql, dr, nb, bg, lr1, lb1, upd lh1 j2 x3), h.1, h.2, fun u' z' e => ⟨e.1, ?_⟩⟩
                rcases e.2 with ⟨i, hi, hfa, rfl⟩ | ⟨p, hp, hpa, rfl⟩
                · have : i = i2 := hL.2.2.1 i i2 hi hi2 (by rw [hfa.1, m8]) (by rw [hfa.2.1, m9])
                  subst this
                  exact ⟨⟨rfl, rfl, rfl, rfl, rfl⟩, ⟨by omega, by omega, by omega, by omega, by omega⟩, hR, qs, Bn, hQ, hN, hH, sm_L_set l2 hi hj2 (by rw [m8, m7]) (by rw [m9, m6]) h12⟩
                · exfalso
                  by_cases c : i2 < p
                  · exact (hpa.1 i2 c).2 ⟨m8, m9⟩
                  · rcases hpa.2 with w | w
                    · omega
                    · by_cases e : i2 = p
                      · rw [← e, m8] at w; exact Int32.lt_irrefl w
                      · have := Int32.lt_of_lt_of_le w (hL.2.1 p i2 (by omega) hi2)
                        rw [m8] at this; exact Int32.lt_irrefl this
            · exact absurd c0 m2.2.2
        · refine ⟨fun u' zz => u' = (g, r, n, rn, lv, lk, ss, rw, sg, od, aw, tb, md, ql, dr) ∧ zz = px_lc r lk ss rw sg (rn k) x2 x3, (c_lock_ok l G cB cI cZ tc a rn lv lk ss rw sg od aw tb md ql dr g r n k x2 x3 (by omega) hn6 (by omega) k1 k2 hrn hrow hx3.1 hx3.2).mono (fun o w' h => by rw [if_neg e1, if_neg s0, if_pos c0] at h; exact ⟨_, (g, r, n, rn, lv, lk, ss, rw, sg, od, aw, tb, md, ql, dr), h.1, h.2, rfl, rfl⟩), (m_lock_ok l G cB cI cZ tc b ag ow ru hd kd tb md ql dr nb bg lr lb lh g t0 q k x2 x3 (by omega) hlb k1 k2 hru hrow hst hJ).mono (fun o w' h => ?_)⟩
          rw [if_neg e2] at h
          obtain ⟨c, lr1, lb1, lh1, lst, bb, mn, hsh, hwk, h⟩ := h
          obtain ⟨l1, l2, l3⟩ := sm_L_model hL hsh (by omega)
          obtain ⟨m1, m2, m3⟩ := sm_lock hN l2 l3 k1 k2 hru hwk
          rw [if_neg (by rw [← m1]; exact s0)] at h
          rcases m2 with m2 | m2
          · exact absurd m2.1 c0
          · rw [if_pos m2.2.1] at h
            exact ⟨_, (g, t0, c, ag, ow, ru, hd, kd, tb, md, ql, dr, nb, bg, lr1, lb1, lh1), h.1, h.2, fun u' z' e => ⟨by rw [e.2, m2.1], by rw [e.1]; exact ⟨⟨rfl, rfl, rfl, rfl, rfl⟩, ⟨by omega, by omega, by omega, by omega, by omega⟩, hR, qs, Bn, hQ, hN, hH, l2⟩⟩⟩
    · have e1 : (px_pl n od (rn k)).isSome = true := by rw [ero, ej]; exact (sm_pl_iff hQ hj6).mpr k0
      have e2 : ¬ kd (ow k).toNatClampNeg = 0 := by rw [ejc]; exact k0
      refine ⟨fun u' zz => u' = (g, r, n, rn, lv, lk, ss, rw, sg, od, aw, tb, md, ql, dr) ∧ zz = -1, (c_lock_ok l G cB cI cZ tc a rn lv lk ss rw sg od aw tb md ql dr g r n k x2 x3 (by omega) hn6 (by omega) k1 k2 hrn hrow hx3.1 hx3.2).mono (fun o w' h => (by rw [if_pos e1] at h; exact ⟨_, (g, r, n, rn, lv, lk, ss, rw, sg, od, aw, tb, md, ql, dr), h.1, h.2, rfl, rfl⟩)), (m_lock_ok l G cB cI cZ tc b ag ow ru hd kd tb md ql dr nb bg lr lb lh g t0 q k x2 x3 (by omega) hlb k1 k2 hru hrow hst hJ).mono (fun o w' h => (by rw [if_pos e2] at h; exact ⟨_, (g, t0, q, ag, ow, ru, hd, kd, tb, md, ql, dr, nb, bg, lr, lb, lh), h.1, h.2, fun u' z' e => ⟨e.2, by rw [e.1]; exact keep⟩⟩))⟩
  · have h : (mx_run g ru x1 && px_isR x2 && mx_in x3 1 2) = false := by simpa using h
    have h2 : (!decide (px_run g rn x1 = -1) && px_isR x2 && !decide (x3 < 1) && decide (x3 ≤ 2)) = false := by rw [hrr, Bool.and_assoc _ (!decide (x3 < 1)), ← hin]; exact h
    exact ⟨fun u' zz => u' = (g, r, n, rn, lv, lk, ss, rw, sg, od, aw, tb, md, ql, dr) ∧ zz = -1, (c_lock_no l G cB cI cZ tc a rn lv lk ss rw sg od aw tb md ql dr g r n x1 x2 x3 (by omega) h2).mono (fun o w' h => ⟨_, (g, r, n, rn, lv, lk, ss, rw, sg, od, aw, tb, md, ql, dr), h.1, h.2, rfl, rfl⟩), (m_lock_no l G cB cI cZ tc b ag ow ru hd kd tb md ql dr nb bg lr lb lh g t0 q x1 x2 x3 (by omega) h).mono (fun o w' h => ⟨_, (g, t0, q, ag, ow, ru, hd, kd, tb, md, ql, dr, nb, bg, lr, lb, lh), h.1, h.2, fun u' z' e => ⟨e.2, by rw [e.1]; exact keep⟩⟩)⟩
