/-! ===== the digest ===== -/
theorem c_mix {d : Int64} {x : Int32} : fX6_mix d x = some (yAd d x) := rfl
theorem c_dgL (F : Int32 → Option Int32) (f : Int32 → Int32) (n : Nat) {d : Int64} (hn : n < 100) (h1 : 1 ≤ n) (hF : ∀ i, i < n → F (nI i) = some (f (nI i))) : wl (S := Int64 × Int32) (B := Int64 × Int32) (fun s_5 => (if nI (n - 1) < s_5.2 then some (.inr (s_5.1, s_5.2)) else ((F s_5.2).bind fun x_52 => ((fX6_mix s_5.1 x_52).bind fun x_56 => some (.inl (x_56, s_5.2 + 1)))))) yFuel (d, 0) = some (yFold n (fun w d => yAd d (f (nI w))) d, nI n) := by
  refine wl_fold (fun w d => yAd d (f (nI w))) n d (by omega) (fun i d hi => ?_) (fun d => ?_)
  · refine (if_neg (fun w => by rw [nj_lt (by omega) (by omega)] at w; omega)).trans ?_
    refine bto (hF i hi) ?_
    refine bto c_mix ?_
    rw [nj_p1]
  · exact if_pos (by rw [nj_lt (by omega) (by omega)]; omega)
theorem c_mixCells {wb wk fr fc bt obl oy0 oy1 oy2 oy3 oy4 oy5 oy6 : Int32} {u m : Nat → Int32} (f : Nat → Nat → Nat → Int32) {d : Int64} (hc : ∀ i j w, i < 5 → j < 5 → fX6_cellNumber wb wk u m fr fc bt obl oy0 oy1 oy2 oy3 oy4 oy5 oy6 (nI i) (nI j) (nI w) = some (f i j w)) : fX6_mixCells wb wk u m fr fc bt obl oy0 oy1 oy2 oy3 oy4 oy5 oy6 d = some (yD2 f d) := by
  unfold fX6_mixCells yD2
  refine bto (wl_fold (fun i d => yFold 5 (fun j d => yFold 4 (fun w d => yAd d (f i j w)) d) d) 5 d (by decide) (fun i d hi => ?_) (fun d => ?_)) rfl
  · refine (if_neg (fun w => by rw [li5, nj_le (by decide) (by omega)] at w; omega)).trans ?_
    refine bto (wl_fold (fun j d => yFold 4 (fun w d => yAd d (f i j w)) d) 5 d (by decide) (fun j d hj => ?_) (fun d => ?_)) ?_
    · refine (if_neg (fun w => by rw [li5, nj_le (by decide) (by omega)] at w; omega)).trans ?_
      refine bto (wl_fold (fun w d => yAd d (f i j w)) 4 d (by decide) (fun w d hw => ?_) (fun d => ?_)) ?_
      · refine (if_neg (fun w => by rw [li3, nj_lt (by decide) (by omega)] at w; omega)).trans ?_
        refine bto (hc i j w hi hj) ?_
        refine bto c_mix ?_
        rw [nj_p1]
      · exact if_pos (show (3 : Int32) < nI 4 by decide)
      · dsimp only
        rw [nj_p1]
    · exact if_pos (show (5 : Int32) ≤ nI 5 by decide)
    · dsimp only
      rw [nj_p1]
  · exact if_pos (show (5 : Int32) ≤ nI 5 by decide)
theorem c_mixResults {Rn Rk : Nat} {v : Nat → Int32} {R : Nat → Nat → Int32} {d : Int64} (h1 : Rn ≤ 9) (h2 : Rk ≤ 9) (hv : yTq Rn Rk v R) : fX6_mixResults (nI Rn) (nI Rk) v d = some (yD3 Rn Rk R d) := by
  unfold fX6_mixResults yD3
  refine bto (wl_fold (fun i d => yFold Rk (fun j d => yAd d (R i j)) d) Rn d (by omega) (fun i d hi => ?_) (fun d => ?_)) rfl
  · refine (if_neg (fun w => by rw [nj_le (by omega) (by omega)] at w; omega)).trans ?_
    refine bto (wl_fold (fun j d => yAd d (R i j)) Rk d (by omega) (fun j d hj => ?_) (fun d => ?_)) ?_
    · refine (if_neg (fun w => by rw [nj_le (by omega) (by omega)] at w; omega)).trans ?_
      refine bto (e_get (by omega) (by omega)) ?_
      rw [hv i j hi hj]
      refine bto c_mix ?_
      rw [nj_p1]
    · exact if_pos (Int32.le_refl _)
    · dsimp only
      rw [nj_p1]
  · exact if_pos (Int32.le_refl _)
theorem c_mixPlain {r k c g s : Nat} {f h : Nat → Int32} {G H : Nat → Nat → Int32} {d : Int64} (J : yJob r k c g s) (hf : yTq r k f G) (hh : yTq k c h H) : fX6_mixPlain (nI r) (nI k) (nI c) (nI g) (nI s) f h d = some (yD3 (r + s) (c + s) (fun i j => yPlain r k c g r G c H i j) d) := by
  obtain ⟨⟨a1, a2⟩, ⟨a3, a4⟩, ⟨a5, a6⟩, a7, a8⟩ := id J
  unfold fX6_mixPlain yD3
  refine bto (wl_fold (fun i d => yFold (c + s) (fun j d => yAd d (yPlain r k c g r G c H i j)) d) (r + s) d (by omega) (fun i d hi => ?_) (fun d => ?_)) rfl
  · refine bto (c_rows a8) ?_
    refine (if_neg (fun w => by rw [nj_le (by omega) (by omega)] at w; omega)).trans ?_
    refine bto (wl_fold (fun j d => yAd d (yPlain r k c g r G c H i j)) (c + s) d (by omega) (fun j d hj => ?_) (fun d => ?_)) ?_
    · refine bto (c_columns a8) ?_
      refine (if_neg (fun w => by rw [nj_le (by omega) (by omega)] at w; omega)).trans ?_
      refine bto (c_plainOf hf hh (by omega) (by omega) a7 (by omega) (by omega) (by omega)) ?_
      refine bto c_mix ?_
      rw [nj_p1]
    · refine bto (c_columns a8) ?_
      exact if_pos (Int32.le_refl _)
    · dsimp only
      rw [nj_p1]
  · refine bto (c_rows a8) ?_
    exact if_pos (Int32.le_refl _)
theorem c_savedBeats {r k c g s : Nat} {G H K : Nat → Nat → Int32} (J : yJob r k c g s) (hgo : yGo (r + s) (c + s) (yJst r k c g G H) (yJb r k c g s G H K)) : fX6_savedBeats (nI k) (nI (yJst r k c g G H)) (nI (yTl (r + s) (yPop (yJb r k c g s G H K).2.1))) (nI (yTl (c + s) (yPop (yJb r k c g s G H K).2.2))) = some (ySvi r k c g s G H K) := by
  have st := yJst_of G H J
  show some (nI _ * nI _ * (nI k - nI (yJst r k c g G H))) = _
  unfold ySvi
  rcases hgo with ⟨z1, z2⟩ | ⟨z1, z2, z3, z4, z5⟩
  · rw [if_pos z1, z1, z2, nj_mul, nj_sub st.2, nj_mul]
    have e0 : yTl (r + s) (yPop 0) = 0 := Nat.div_zero _
    rw [e0, Nat.zero_mul, Nat.zero_mul]
    rfl
  · rw [if_neg (show ¬ (yJb r k c g s G H K).2.1 = 0 by omega)]
    unfold yBT
    rw [if_neg (show ¬ (yJb r k c g s G H K).2.1 = 0 by omega), if_neg (by decide), if_neg (by decide), if_neg (by decide), if_pos rfl, nj_mul, nj_sub st.2]
def yDgc (r k c g s : Nat) (G H K : Nat → Nat → Int32) (Rn Rk : Nat) (R : Nat → Nat → Int32) (v : Nat → Int32) (f : Nat → Nat → Nat → Int32) : Int64 := yAd (yAd (yD4 (fun i => yBT (r + s) (c + s) (yJst r k c g G H) (yJb r k c g s G H K) i) (yD3 (r + s) (c + s) (fun i j => yPlain r k c g r G c H i j) (yD3 Rn Rk R (yD2 f (yD1 v 5659))))) (ySvi r k c g s G H K)) 1
theorem aX_digest {n : Nat → Int32} {t : Nat → Nat → Int32} {r kk c g s Rn Rk : Nat} {G H B K R : Nat → Nat → Int32} (v : Nat → Int32) (f : Nat → Nat → Nat → Int32) (J : yJob r kk c g s) (hn : n 0 = nI r ∧ n 1 = nI kk ∧ n 2 = nI c ∧ n 3 = nI g ∧ n 4 = nI s) (hf : yTq r kk (t 0) G) (hh : yTq kk c (t 1) H) (hB : yFlag (n 5) B) (hK : yFlag (n 6) K) (hs : ySub B K) (hu : yFt n t) (h7 : n 7 = nI Rn) (h8 : n 8 = nI Rk) (hRn : Rn ≤ 9) (hRk : Rk ≤ 9) (hv : yTq Rn Rk (t 4) R) (hm : ∀ i1, fX6_meshNumber (nI r) (nI kk) (nI c) (nI g) (nI s) (t 0) (t 1) (n 5) (n 6) (nI Rn) (nI Rk) (n 11) (n 15) (n 16) (n 17) i1 = some (yMT v i1)) (hc : ∀ i j w, i < 5 → j < 5 → fX6_cellNumber (n 5) (n 6) (t 2) (t 3) (n 12) (n 13) (n 14) (n 15) (n 24) (n 25) (n 26) (n 27) (n 28) (n 29) (n 30) (nI i) (nI j) (nI w) = some (f i j w)) : ∃ x, gX6_digest n t = some x ∧ x.1 = yDgc r kk c g s G H K Rn Rk R v f := by
  obtain ⟨h0, h1, h2, h3, h4⟩ := hn
  obtain ⟨⟨a1, a2⟩, ⟨a3, a4⟩, ⟨a5, a6⟩, a7, a8⟩ := id J
  have st := yJst_of G H J
  unfold gX6_digest fX6_digest
  simp only [h0, h1, h2, h3, h4, h7, h8]
  obtain ⟨o6, e6, p0, p1, p2, p3, p4⟩ := c_findBest (x3 := n 47) (x4 := n 48) (x5 := n 49) (x6 := n 50) (x7 := n 51) (x8 := n 52) (x9 := n 53) J hf hh hK
  obtain ⟨o1, o2, o3, o4, o5, o7, o8, o9, o10, o11, p11, p12, p13, p14, p15, p16, p17, p18, p19, p20⟩ := o6
  dsimp only at p1 p2 p3 p4
  obtain ⟨q1, q2, q3⟩ := c_fb2 J hf hh e6
  dsimp only at q1 q2 q3
  unfold yLy at p4
  cases p4
  subst p1 p2 p3 q1 q2 q3
  obtain ⟨o8, e8, h8'⟩ := c_allSound (t3 := p14) (t4 := p15) (t5 := p16) (t6 := p17) (t7 := p18) (t8 := p19) (t9 := p20) hB hK hs (show r + s ≤ 9 by omega) (show c + s ≤ 9 by omega) st.1 (by omega) p0 hu
  have d1 := c_dgL (fun i => fX6_meshNumber (nI r) (nI kk) (nI c) (nI g) (nI s) (t 0) (t 1) (n 5) (n 6) (nI Rn) (nI Rk) (n 11) (n 15) (n 16) (n 17) i) (yMT v) 16 (d := 5659) (by decide) (by decide) (fun i _ => hm (nI i))
  have d2 := c_mixCells f (d := yD1 v 5659) hc
  have d3 := c_mixResults (d := yD2 f (yD1 v 5659)) hRn hRk hv
  have d4 := c_mixPlain (d := yD3 Rn Rk R (yD2 f (yD1 v 5659))) J hf hh
  have d5 := c_dgL (fun i => fX6_bestNumber (nI (r + s)) (nI (c + s)) (nI (yJst r kk c g G H)) (nI (yJb r kk c g s G H K).2.1) (nI (yJb r kk c g s G H K).2.2) (nI (yTl (r + s) (yPop (yJb r kk c g s G H K).2.1))) (nI (yTl (c + s) (yPop (yJb r kk c g s G H K).2.2))) (nI (yBf (r + s) (c + s) (yPop (yJb r kk c g s G H K).2.1) (yPop (yJb r kk c g s G H K).2.2) (yJst r kk c g G H))) i) (fun i => yBT (r + s) (c + s) (yJst r kk c g G H) (yJb r kk c g s G H K) i) 5 (d := yD3 (r + s) (c + s) (fun i j => yPlain r kk c g r G c H i j) (yD3 Rn Rk R (yD2 f (yD1 v 5659)))) (by decide) (by decide) (fun i _ => c_bestNumber p0 (by omega) (by omega) st.1)
  have d6 := c_savedBeats J p0
  have ne : ¬ o8.1 = 0 := by
    rw [h8']
    decide
  exact ⟨_, bto (bto e6 (bto d1 (bto d2 (bto d3 (bto d4 (bto d5 (bto d6 (bto c_mix (bto e8 ((if_neg ne).trans (bto c_mix rfl))))))))))) rfl, rfl⟩
theorem eM_digest_i {W : Nat} {n : Nat → Int32} {t : Nat → Nat → Int32} {r kk c g s : Nat} {m : Nat → Int32} {L : Int64} {k : Nat → Nat} {G : Nat → Nat → Nat → Int32} (sh : Nat) (hs : ¬ 2 ≤ sh) (h : yMw sh m k G r kk c g s) (hW : W ≤ 80000000) (hw : yRest W n t sh m L k G) : ∃ y, gX9w_digest sh m L k G = some y ∧ y.1 = yDgc r kk c g s (G 0) (G 1) (G 3) (k 4) (k 5) (G 6) (yMv r kk c g s (G 0) (G 1) (G 2) (G 3) (m 1) (m 2) (k 4) (k 5) (0, 0, -1)) (fun i j w => yCT (G 2) (G 3) (G 4) 0 (-1) i j (nI w)) := by
  obtain ⟨J, ⟨h8, h9, h10, h11, h12, q0, q1, q2, q3⟩, b1, b2, q4, q5, hr⟩ := id h
  have e := e_digest_i (G := G 0) (H := G 1) (B := G 2) (K := G 3) (U := G 4) (R := G 6) (be := m 1) (wo := m 2) (ta := L) J q4 q5
  unfold yDigi at e
  rw [yW_i hW hw.2.2.1 (hw.2.2.2.2.2 hs)] at e
  match sh with
  | 0 =>
    unfold gX9w_digest
    dsimp only
    simp only [h8, h9, h10, h11, h12, q0, q1, q2, q3]
    exact ⟨_, bto e rfl, rfl⟩
  | 1 =>
    unfold gX9w_digest
    dsimp only
    simp only [h8, h9, h10, h11, h12, q0, q1, q2, q3]
    exact ⟨_, bto e rfl, rfl⟩
  | z + 2 => exact absurd (by omega) hs
theorem eM_digest_r {W : Nat} {n : Nat → Int32} {t : Nat → Nat → Int32} {r kk c g s r2 k2 c2 g2 s2 lr lc ti go : Nat} {m : Nat → Int32} {L : Int64} {k : Nat → Nat} {G : Nat → Nat → Nat → Int32} (sh : Nat) (hs : 2 ≤ sh) (h : yMw sh m k G r kk c g s) (hr : yMr m k G r2 k2 c2 g2 s2 lr lc ti go) (hW : W ≤ 80000000) (hw : yRest W n t sh m L k G) : ∃ y, gX9w_digest sh m L k G = some y ∧ y.1 = yDgc r kk c g s (G 0) (G 1) (G 3) (k 4) (k 5) (G 6) (yMv r kk c g s (G 0) (G 1) (G 2) (G 3) (m 1) (m 2) (k 4) (k 5) (1, nI (yFrom r2 c2 s2 lr lc (yJst r2 k2 c2 g2 (G 8) (G 9)) ti - go), nI ti)) (fun i j w => yCT (G 2) (G 3) (G 4) (if yDoes r2 c2 s2 lr lc ti i j = true then G 5 i j else 0) (yC3 r2 k2 c2 g2 s2 lr lc (G 8) (G 9) ti go i j) i j (nI w)) := by
  obtain ⟨J, ⟨h8, h9, h10, h11, h12, q0, q1, q2, q3⟩, b1, b2, q4, q5, -⟩ := id h
  have hw5 := yW_r (r := r) (kk := kk) (c := c) (g := g) (s := s) hW hw.2.2.1 (hw.2.2.2.2.1 hs)
  obtain ⟨J2, Y, ⟨h13, h14, h15, h16, h17⟩, ⟨h3, h4, h5, h6⟩, ⟨q8, q9, q10, q11⟩, ht, hg, hD⟩ := hr
  have e := e_digest_r (G := G 0) (H := G 1) (B := G 2) (K := G 3) (U := G 4) (R := G 6) (S := G 5) (be := m 1) (wo := m 2) (ta := L) J q4 q5 J2 Y ht hg
  have ff := yFrom_step (st := yJst r2 k2 c2 g2 (G 8) (G 9)) ht
  unfold yDigr at e
  rw [decide_eq_true (show 0 < yFrom r2 c2 s2 lr lc (yJst r2 k2 c2 g2 (G 8) (G 9)) ti - go by omega), hw5] at e
  match sh with
  | 0 => exact absurd hs (by decide)
  | 1 => exact absurd hs (by decide)
  | z + 2 =>
    unfold gX9w_digest
    dsimp only
    simp only [h8, h9, h10, h11, h12, q0, q1, q2, q3, h13, h14, h15, h16, h17, h3, h4, h5, h6, q8, q9, q10, q11]
    exact ⟨_, bto e rfl, rfl⟩
theorem sa_digest {W : Nat} {n : Nat → Int32} {t : Nat → Nat → Int32} {sh : Nat} {m : Nat → Int32} {L : Int64} {k : Nat → Nat} {G : Nat → Nat → Nat → Int32} (h : yR4 W n t sh m L k G) (hW : W ≤ 80000000) : ∃ x y, gX6_digest n t = some x ∧ gX9w_digest sh m L k G = some y ∧ yR4 W x.2.1 x.2.2 y.2.1 y.2.2.1 y.2.2.2.1 y.2.2.2.2.1 y.2.2.2.2.2 ∧ x.1 = y.1 := by
  obtain ⟨h2, hw⟩ := id h
  obtain ⟨hC, r, kk, c, g, s, hM, hn, h0, h1⟩ := id h2
  obtain ⟨⟨a1, a2⟩, ⟨a3, a4⟩, ⟨a5, a6⟩, a7, a8⟩ := id hM.1
  obtain ⟨x, y, ex, ey, hR⟩ := s4_digest h
  have hR4 : k 4 ≤ 9 := hM.2.2.2.2.1
  have hR5 : k 5 ≤ 9 := hM.2.2.2.2.2.1
  have hv : n 7 = nI (k 4) ∧ n 8 = nI (k 5) ∧ yTq (k 4) (k 5) (t 4) (G 6) ∧ (k 4 = 0 → k 5 = 0) ∧ (1 ≤ k 4 → 1 ≤ k 5 ∧ n 9 = m 7) := by
    obtain ⟨_, _, _, _, w1, w2⟩ := hw
    by_cases hs : 2 ≤ sh
    · obtain ⟨r2, k2, c2, g2, s2, lr, lc, ti, go, _, _, _, _, _, _, _, a, b, c', d, _⟩ := w1 hs
      exact ⟨by rw [a, c']; rfl, by rw [b, d]; rfl, fun i j hi _ => by rw [c'] at hi; exact absurd hi (Nat.not_lt_zero _), fun _ => d, fun z => by omega⟩
    · obtain ⟨_, _, _, _, a, b, c', d, e, _⟩ := w2 hs
      exact ⟨a, b, e, c', d⟩
  obtain ⟨v7, v8, vv, vz, -⟩ := hv
  have hf := h0.q (a := r) (b := kk) (by omega) (by omega)
  have hh := h1.q (a := kk) (b := c) (by omega) (by omega)
  by_cases hs : 2 ≤ sh
  · obtain ⟨r2, k2, c2, g2, s2, lr, lc, ti, go, hr', e19, f5, f6, e10, ⟨e24, e25, e26, e27, e28, e29, e30, e31, e32⟩, hC', z7, z8, z4, z5, zX⟩ := hw.2.2.2.2.1 hs
    have st2 := yJst_of (G 8) (G 9) hr'.1
    have k6 := hr'.1.2.1.2
    have ff := yFrom_step (st := yJst r2 k2 c2 g2 (G 8) (G 9)) hr'.2.2.2.2.2.1
    have fl := yFrom_le (ti := ti) (st := yJst r2 k2 c2 g2 (G 8) (G 9)) hr'.1 hr'.2.1 st2.1 (by omega)
    have hgo := hr'.2.2.2.2.2.2.1
    have tb := yTb_of (st := yJst r2 k2 c2 g2 (G 8) (G 9)) hr'.1 hr'.2.1 hr'.2.2.2.2.2.1 st2.1 (by omega)
    obtain ⟨d1, d2, d3, d4, d5, d6, d7, d8, d9⟩ := id hC'
    dsimp only at d1 d2 d3 d4 d5 d6 d7 d8
    have runs : fX5_runs (n 15) = some (yb true) := by
      rw [d5]
      refine (c_runs (by omega)).trans ?_
      rw [beq_false_of_ne (show yFrom r2 c2 s2 lr lc (yJst r2 k2 c2 g2 (G 8) (G 9)) ti - go ≠ 0 by omega)]
      rfl
    obtain ⟨x', ex', hx⟩ := aX_digest (yMv r kk c g s (G 0) (G 1) (G 2) (G 3) (m 1) (m 2) (k 4) (k 5) (1, nI (yFrom r2 c2 s2 lr lc (yJst r2 k2 c2 g2 (G 8) (G 9)) ti - go), nI ti)) (fun i j w => yCT (G 2) (G 3) (G 4) (if yDoes r2 c2 s2 lr lc ti i j = true then G 5 i j else 0) (yC3 r2 k2 c2 g2 s2 lr lc (G 8) (G 9) ti go i j) i j (nI w)) hM.1 hn hf hh hw.1 hw.2.1 hw.2.2.1 (yFt_of hw) v7 v8 hR4 hR5 vv (fun i1 => by
        have e := c_meshNumber (be := n 16) (wo := n 17) (oti := n 11) (i1 := i1) true hM.1 hf hh hw.1 hw.2.1 runs vz
        rw [e, d5, d6, d1, hw.2.2.2.1]
        rfl) (fun i j w hi hj => by
        rw [d2, d3, d4, e24, e25, e26, e27, e28, e29, e30]
        exact c_cell_r hr'.1 hr'.2.1 hr'.2.2.2.2.2.1 (by omega) runs hw.1 hw.2.1 hw.2.2.1 d7 d8 hi hj)
    obtain ⟨y', ey', hy⟩ := eM_digest_r sh hs hM hr' hW hw
    rw [ex] at ex'
    cases ex'
    rw [ey] at ey'
    cases ey'
    exact ⟨x, y, ex, ey, hR, hx.trans hy.symm⟩
  · have hi := hw.2.2.2.2.2 hs
    have runs : fX5_runs (n 15) = some (yb false) := by
      rw [hi.1]
      rfl
    obtain ⟨x', ex', hx⟩ := aX_digest (yMv r kk c g s (G 0) (G 1) (G 2) (G 3) (m 1) (m 2) (k 4) (k 5) (0, 0, -1)) (fun i j w => yCT (G 2) (G 3) (G 4) 0 (-1) i j (nI w)) hM.1 hn hf hh hw.1 hw.2.1 hw.2.2.1 (yFt_of hw) v7 v8 hR4 hR5 vv (fun i1 => by
        have e := c_meshNumber (be := n 16) (wo := n 17) (oti := n 11) (i1 := i1) false hM.1 hf hh hw.1 hw.2.1 runs vz
        rw [e, hi.1, hi.2.1, hw.2.2.2.1]
        rfl) (fun i j w hi' hj => by
        rw [hi.1]
        exact c_cell_i hw.1 hw.2.1 hw.2.2.1 hi.2.2.1 hi' hj)
    obtain ⟨y', ey', hy⟩ := eM_digest_i sh hs hM hW hw
    rw [ex] at ex'
    cases ex'
    rw [ey] at ey'
    cases ey'
    exact ⟨x, y, ex, ey, hR, hx.trans hy.symm⟩
