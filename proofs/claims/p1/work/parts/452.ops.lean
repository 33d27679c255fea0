/-! ===== calls over the whole relation ===== -/
theorem aL_result {n : Nat → Int32} {t : Nat → Nat → Int32} {on : Int64} {Rn Rk : Nat} {R : Nat → Nat → Int32} {i1 i2 : Int32} (h1 : Rn ≤ 9) (h2 : Rk ≤ 9) (h7 : n 7 = nI Rn) (h8 : n 8 = nI Rk) (hv : yTq Rn Rk (t 4) R) : gL_result n t on i1 i2 = some (if yHas Rn Rk i1 i2 = true then (0, n, t, (R i1.toNatClampNeg i2.toNatClampNeg).toInt64) else (1, n, t, on)) := by
  unfold gL_result fL_result
  simp only [h7, h8]
  have e := c_result (i1 := i1) (i2 := i2) h1 h2 hv
  by_cases c : yHas Rn Rk i1 i2 = true
  · rw [if_pos c] at e ⊢
    exact bto (bto e rfl) rfl
  · rw [if_neg c] at e ⊢
    exact bto (bto e rfl) rfl
theorem s4_result {W : Nat} {n : Nat → Int32} {t : Nat → Nat → Int32} {sh : Nat} {m : Nat → Int32} {L : Int64} {k : Nat → Nat} {G : Nat → Nat → Nat → Int32} {on : Int64} {i1 : Int32} {i2 : Int32} (h : yR4 W n t sh m L k G) : ∃ x y, gL_result n t on i1 i2 = some x ∧ gX9w_result sh m L k G i1 i2 = some y ∧ yR4 W x.2.1 x.2.2.1 y.2.1 y.2.2.1 y.2.2.2.1 y.2.2.2.2.1 y.2.2.2.2.2 ∧ y.2.2.1 0 = x.1 ∧ (x.1 = 0 → x.2.2.2 = y.1.toInt64) := by
  obtain ⟨h2, hw⟩ := id h
  obtain ⟨hC, r, kk, c, g, s, hM, hn, h0, h1⟩ := id h2
  obtain ⟨⟨a1, a2⟩, ⟨a3, a4⟩, ⟨a5, a6⟩, a7, a8⟩ := id hM.1
  have hR4 : k 4 ≤ 9 := hM.2.2.2.2.1
  have hR5 : k 5 ≤ 9 := hM.2.2.2.2.2.1
  have hv : n 7 = nI (k 4) ∧ n 8 = nI (k 5) ∧ yTq (k 4) (k 5) (t 4) (G 6) ∧ (k 4 = 0 → k 5 = 0) ∧ (1 ≤ k 4 → 1 ≤ k 5 ∧ n 9 = m 7) := by
    obtain ⟨_, _, _, _, w1, w2⟩ := hw
    by_cases hs : 2 ≤ sh
    · obtain ⟨r2, k2, c2, g2, s2, lr, lc, ti, go, _, _, _, _, _, _, _, a, b, c', d, _⟩ := w1 hs
      exact ⟨by rw [a, c']; rfl, by rw [b, d]; rfl, fun i j hi _ => by rw [c'] at hi; exact absurd hi (Nat.not_lt_zero _), fun _ => d, fun z => by omega⟩
    · obtain ⟨_, _, _, _, a, b, c', d, e, _⟩ := w2 hs
      exact ⟨a, b, e, c', d⟩
  obtain ⟨v7, v8, vv, -, -⟩ := hv
  have ex := aL_result (on := on) (i1 := i1) (i2 := i2) hR4 hR5 v7 v8 vv
  have ey := eM_result (L := L) (i1 := i1) (i2 := i2) hM
  by_cases hh : yHas (k 4) (k 5) i1 i2 = true
  · rw [if_pos hh] at ex ey
    exact ⟨_, _, ex, ey, ⟨yR2_q _ h2, yRest_congr (f4_result ex) (m4_result ey) hw⟩, rfl, fun _ => rfl⟩
  · rw [if_neg hh] at ex ey
    exact ⟨_, _, ex, ey, ⟨yR2_q _ h2, yRest_congr (f4_result ex) (m4_result ey) hw⟩, rfl, fun z => absurd z (show ¬ (1 : Int32) = 0 by decide)⟩
theorem aL_mesh {n : Nat → Int32} {t : Nat → Nat → Int32} {on : Int64} {r kk c g s Rn Rk : Nat} {G H B K : Nat → Nat → Int32} {i1 : Int32} (ro : Bool) (J : yJob r kk c g s) (hn : n 0 = nI r ∧ n 1 = nI kk ∧ n 2 = nI c ∧ n 3 = nI g ∧ n 4 = nI s) (hf : yTq r kk (t 0) G) (hh : yTq kk c (t 1) H) (hB : yFlag (n 5) B) (hK : yFlag (n 6) K) (h7 : n 7 = nI Rn) (h8 : n 8 = nI Rk) (hr : fX5_runs (n 15) = some (yb ro)) (hz : Rn = 0 → Rk = 0) : gL_mesh n t on i1 = some (if yIn i1 0 15 = true then (0, n, t, (yMT (yMv r kk c g s G H B K (n 16) (n 17) Rn Rk (yb ro, n 15, if ro = true then n 11 else -1)) i1).toInt64) else (1, n, t, on)) := by
  obtain ⟨h0, h1, h2, h3, h4⟩ := hn
  unfold gL_mesh fL_mesh
  simp only [h0, h1, h2, h3, h4, h7, h8]
  have e := c_mesh (be := n 16) (wo := n 17) (oti := n 11) (i1 := i1) ro J hf hh hB hK hr hz
  by_cases c : yIn i1 0 15 = true
  · rw [if_pos c] at e ⊢
    exact bto (bto e rfl) rfl
  · rw [if_neg c] at e ⊢
    exact bto (bto e rfl) rfl
theorem eM_mesh_i {r kk c g s : Nat} {m : Nat → Int32} {L : Int64} {k : Nat → Nat} {G : Nat → Nat → Nat → Int32} {i1 : Int32} (sh : Nat) (hs : ¬ 2 ≤ sh) (h : yMw sh m k G r kk c g s) : gX9w_mesh sh m L k G i1 = some (yAns (if yIn i1 0 15 = true then (yMT (yMv r kk c g s (G 0) (G 1) (G 2) (G 3) (m 1) (m 2) (k 4) (k 5) (0, 0, -1)) i1, 0) else (0, 1)) sh m L k G) := by
  obtain ⟨J, ⟨h8, h9, h10, h11, h12, q0, q1, q2, q3⟩, b1, b2, q4, q5, hr⟩ := id h
  match sh with
  | 0 =>
    unfold gX9w_mesh
    dsimp only
    simp only [h8, h9, h10, h11, h12, q0, q1, q2, q3]
    exact bto (e_mesh_i J q4) rfl
  | 1 =>
    unfold gX9w_mesh
    dsimp only
    simp only [h8, h9, h10, h11, h12, q0, q1, q2, q3]
    exact bto (e_mesh_i J q4) rfl
  | z + 2 => exact absurd (by omega) hs
theorem eM_mesh_r {r kk c g s r2 k2 c2 g2 s2 lr lc ti go : Nat} {m : Nat → Int32} {L : Int64} {k : Nat → Nat} {G : Nat → Nat → Nat → Int32} {i1 : Int32} (sh : Nat) (hs : 2 ≤ sh) (h : yMw sh m k G r kk c g s) (hr : yMr m k G r2 k2 c2 g2 s2 lr lc ti go) : gX9w_mesh sh m L k G i1 = some (yAns (if yIn i1 0 15 = true then (yMT (yMv r kk c g s (G 0) (G 1) (G 2) (G 3) (m 1) (m 2) (k 4) (k 5) (1, nI (yFrom r2 c2 s2 lr lc (yJst r2 k2 c2 g2 (G 8) (G 9)) ti - go), nI ti)) i1, 0) else (0, 1)) sh m L k G) := by
  obtain ⟨J, ⟨h8, h9, h10, h11, h12, q0, q1, q2, q3⟩, b1, b2, q4, q5, -⟩ := id h
  obtain ⟨J2, Y, ⟨h13, h14, h15, h16, h17⟩, ⟨h3, h4, h5, h6⟩, ⟨q8, q9, q10, q11⟩, ht, hg, hD⟩ := hr
  match sh with
  | 0 => exact absurd hs (by decide)
  | 1 => exact absurd hs (by decide)
  | z + 2 =>
    unfold gX9w_mesh yAns
    rw [show min (z + 2) 2 = 2 by omega]
    dsimp only
    simp only [h8, h9, h10, h11, h12, q0, q1, q2, q3, h13, h14, h15, h16, h17, h3, h4, h5, h6, q8, q9, q10, q11]
    exact bto (e_mesh_r J q4 J2 Y ht hg) rfl
theorem s4_mesh {W : Nat} {n : Nat → Int32} {t : Nat → Nat → Int32} {sh : Nat} {m : Nat → Int32} {L : Int64} {k : Nat → Nat} {G : Nat → Nat → Nat → Int32} {on : Int64} {i1 : Int32} (h : yR4 W n t sh m L k G) : ∃ x y, gL_mesh n t on i1 = some x ∧ gX9w_mesh sh m L k G i1 = some y ∧ yR4 W x.2.1 x.2.2.1 y.2.1 y.2.2.1 y.2.2.2.1 y.2.2.2.2.1 y.2.2.2.2.2 ∧ y.2.2.1 0 = x.1 ∧ (x.1 = 0 → x.2.2.2 = y.1.toInt64) := by
  obtain ⟨h2, hw⟩ := id h
  obtain ⟨hC, r, kk, c, g, s, hM, hn, h0, h1⟩ := id h2
  obtain ⟨⟨a1, a2⟩, ⟨a3, a4⟩, ⟨a5, a6⟩, a7, a8⟩ := id hM.1
  have hR4 : k 4 ≤ 9 := hM.2.2.2.2.1
  have hR5 : k 5 ≤ 9 := hM.2.2.2.2.2.1
  have hv : n 7 = nI (k 4) ∧ n 8 = nI (k 5) ∧ yTq (k 4) (k 5) (t 4) (G 6) ∧ (k 4 = 0 → k 5 = 0) ∧ (1 ≤ k 4 → 1 ≤ k 5 ∧ n 9 = m 7) := by
    obtain ⟨_, _, _, _, w1, w2⟩ := hw
    by_cases hs : 2 ≤ sh
    · obtain ⟨r2, k2, c2, g2, s2, lr, lc, ti, go, _, _, _, _, _, _, _, a, b, c', d, _⟩ := w1 hs
      exact ⟨by rw [a, c']; rfl, by rw [b, d]; rfl, fun i j hi _ => by rw [c'] at hi; exact absurd hi (Nat.not_lt_zero _), fun _ => d, fun z => by omega⟩
    · obtain ⟨_, _, _, _, a, b, c', d, e, _⟩ := w2 hs
      exact ⟨a, b, e, c', d⟩
  obtain ⟨v7, v8, vv, vz, -⟩ := hv
  by_cases hs : 2 ≤ sh
  · obtain ⟨r2, k2, c2, g2, s2, lr, lc, ti, go, hr', e19, f5, f6, e10, e24, hC', z7, z8, z4, z5, zX⟩ := hw.2.2.2.2.1 hs
    have ff := yFrom_step (st := yJst r2 k2 c2 g2 (G 8) (G 9)) hr'.2.2.2.2.2.1
    have fl := yFrom_le (ti := ti) (st := yJst r2 k2 c2 g2 (G 8) (G 9)) hr'.1 hr'.2.1 (yJst_of (G 8) (G 9) hr'.1).1 (by have := (yJst_of (G 8) (G 9) hr'.1).2; have := hr'.1.2.1.2; omega)
    have hgo := hr'.2.2.2.2.2.2.1
    have runs : fX5_runs (n 15) = some (yb true) := by
      rw [hC'.2.2.2.2.1]
      refine (c_runs (by dsimp only; omega)).trans ?_
      rw [beq_false_of_ne (show yFrom r2 c2 s2 lr lc (yJst r2 k2 c2 g2 (G 8) (G 9)) ti - go ≠ 0 by omega)]
      rfl
    have ex := aL_mesh (on := on) (i1 := i1) true hM.1 hn (h0.q (by omega) (by omega)) (h1.q (by omega) (by omega)) hw.1 hw.2.1 v7 v8 runs vz
    have ey := eM_mesh_r (L := L) (i1 := i1) sh hs hM hr'
    rw [hC'.2.2.2.2.1, hC'.2.2.2.2.2.1, hC'.1, hw.2.2.2.1] at ex
    by_cases c : yIn i1 0 15 = true
    · rw [if_pos c] at ex ey
      exact ⟨_, _, ex, ey, ⟨yR2_q _ h2, yRest_congr (f4_mesh ex) (m4_mesh ey) hw⟩, rfl, fun _ => rfl⟩
    · rw [if_neg c] at ex ey
      exact ⟨_, _, ex, ey, ⟨yR2_q _ h2, yRest_congr (f4_mesh ex) (m4_mesh ey) hw⟩, rfl, fun z => absurd z (show ¬ (1 : Int32) = 0 by decide)⟩
  · have hi := hw.2.2.2.2.2 hs
    have runs : fX5_runs (n 15) = some (yb false) := by
      rw [hi.1]
      rfl
    have ex := aL_mesh (on := on) (i1 := i1) false hM.1 hn (h0.q (by omega) (by omega)) (h1.q (by omega) (by omega)) hw.1 hw.2.1 v7 v8 runs vz
    have ey := eM_mesh_i (L := L) (i1 := i1) sh hs hM
    rw [hi.1, hi.2.1, hw.2.2.2.1] at ex
    by_cases c : yIn i1 0 15 = true
    · rw [if_pos c] at ex ey
      exact ⟨_, _, ex, ey, ⟨yR2_q _ h2, yRest_congr (f4_mesh ex) (m4_mesh ey) hw⟩, rfl, fun _ => rfl⟩
    · rw [if_neg c] at ex ey
      exact ⟨_, _, ex, ey, ⟨yR2_q _ h2, yRest_congr (f4_mesh ex) (m4_mesh ey) hw⟩, rfl, fun z => absurd z (show ¬ (1 : Int32) = 0 by decide)⟩
def yOc (i1 i2 i3 : Int32) (v : Int32) : Int32 × Int32 := if yIn i1 0 4 = true ∧ yIn i2 0 4 = true then (if yIn i3 0 3 = true then (v, 0) else (0, 2)) else (0, 1)
theorem aL_ofCell {n : Nat → Int32} {t : Nat → Nat → Int32} {on : Int64} {i1 i2 i3 v : Int32} (hc : yIn i1 0 4 = true → yIn i2 0 4 = true → fX6_cellNumber (n 5) (n 6) (t 2) (t 3) (n 12) (n 13) (n 14) (n 15) (n 24) (n 25) (n 26) (n 27) (n 28) (n 29) (n 30) i1 i2 i3 = some v) : ∃ x, gL_ofCell n t on i1 i2 i3 = some x ∧ x.1 = (yOc i1 i2 i3 v).2 ∧ ((yOc i1 i2 i3 v).2 = 0 → x.2.2.2 = (yOc i1 i2 i3 v).1.toInt64) := by
  have l3 : Int32.toInt 3 = 3 := by decide
  unfold gL_ofCell fL_ofCell fX6_ofCell yOc
  by_cases hh : yIn i1 0 4 = true ∧ yIn i2 0 4 = true
  · have em : fX6_isOnMesh i1 i2 = some (yb true) := by rw [c_onMesh, hh.1, hh.2]; rfl
    rw [if_pos hh]
    by_cases c1 : i3 < 0
    · have d1 := c1
      rw [yi_lt, yI0] at d1
      rw [if_neg (show ¬ yIn i3 0 3 = true from fun z => by have := yIn_of z; omega)]
      exact ⟨_, bto (bto (bto em ((if_neg (show ¬ yb true = 0 by decide)).trans (if_pos c1))) rfl) rfl, rfl, fun z => absurd z (by decide)⟩
    by_cases c2 : i3 ≤ 3
    · have d1 := c1
      have d2 := c2
      rw [yi_lt, yI0] at d1
      rw [yi_le, l3] at d2
      rw [if_pos (show yIn i3 0 3 = true from decide_eq_true (by omega))]
      exact ⟨_, bto (bto (bto em ((if_neg (show ¬ yb true = 0 by decide)).trans ((if_neg c1).trans ((if_pos c2).trans (bto (hc hh.1 hh.2) rfl))))) rfl) rfl, rfl, fun _ => rfl⟩
    · have d2 := c2
      rw [yi_le, l3] at d2
      rw [if_neg (show ¬ yIn i3 0 3 = true from fun z => by have := yIn_of z; omega)]
      exact ⟨_, bto (bto (bto em ((if_neg (show ¬ yb true = 0 by decide)).trans ((if_neg c1).trans (if_neg c2)))) rfl) rfl, rfl, fun z => absurd z (by decide)⟩
  · have em : fX6_isOnMesh i1 i2 = some (yb false) := by
      rw [c_onMesh]
      cases e1 : yIn i1 0 4
      · rfl
      · cases e2 : yIn i2 0 4
        · rfl
        · exact absurd ⟨e1, e2⟩ hh
    rw [if_neg hh]
    exact ⟨_, bto (bto (bto em (if_pos (show yb false = 0 by decide))) rfl) rfl, rfl, fun z => absurd z (by decide)⟩
theorem yOc_of {B K U : Nat → Nat → Int32} {v2 v3 : Nat → Nat → Int32} {i1 i2 i3 : Int32} {o : Int32 × Int32} (h : (¬ (yIn i1 0 4 = true ∧ yIn i2 0 4 = true) ∧ o = (0, 1)) ∨ ((yIn i1 0 4 = true ∧ yIn i2 0 4 = true) ∧ ¬ yIn i3 0 3 = true ∧ o = (0, 2)) ∨ ((yIn i1 0 4 = true ∧ yIn i2 0 4 = true) ∧ yIn i3 0 3 = true ∧ ∃ i j, i < 5 ∧ j < 5 ∧ i1 = nI i ∧ i2 = nI j ∧ o = (yCT B K U (v2 i j) (v3 i j) i j i3, 0))) : o = yOc i1 i2 i3 (yCT B K U (v2 i1.toNatClampNeg i2.toNatClampNeg) (v3 i1.toNatClampNeg i2.toNatClampNeg) i1.toNatClampNeg i2.toNatClampNeg i3) := by
  unfold yOc
  rcases h with ⟨a, rfl⟩ | ⟨a, b, rfl⟩ | ⟨a, b, i, j, hi, hj, e1, e2, rfl⟩
  · rw [if_neg a]
  · rw [if_pos a, if_neg b]
  · rw [if_pos a, if_pos b, e1, e2, nj_cl (by omega), nj_cl (by omega)]
theorem eM_ofCell_i {r kk c g s : Nat} {m : Nat → Int32} {L : Int64} {k : Nat → Nat} {G : Nat → Nat → Nat → Int32} {i1 i2 i3 : Int32} (sh : Nat) (hs : ¬ 2 ≤ sh) (h : yMw sh m k G r kk c g s) : gX9w_ofCell sh m L k G i1 i2 i3 = some (yAns (yOc i1 i2 i3 (yCT (G 2) (G 3) (G 4) 0 (-1) i1.toNatClampNeg i2.toNatClampNeg i3)) sh m L k G) := by
  obtain ⟨x, hx, hp⟩ := e_ofCell_i (B := G 2) (K := G 3) (U := G 4) (i1 := i1) (i2 := i2) (i3 := i3)
  have hp := yOc_of (v2 := fun _ _ => 0) (v3 := fun _ _ => -1) hp
  subst hp
  match sh with
  | 0 =>
    unfold gX9w_ofCell
    exact bto hx rfl
  | 1 =>
    unfold gX9w_ofCell
    exact bto hx rfl
  | z + 2 => exact absurd (by omega) hs
theorem eM_ofCell_r {r kk c g s r2 k2 c2 g2 s2 lr lc ti go : Nat} {m : Nat → Int32} {L : Int64} {k : Nat → Nat} {G : Nat → Nat → Nat → Int32} {i1 i2 i3 : Int32} (sh : Nat) (hs : 2 ≤ sh) (h : yMw sh m k G r kk c g s) (hr : yMr m k G r2 k2 c2 g2 s2 lr lc ti go) : gX9w_ofCell sh m L k G i1 i2 i3 = some (yAns (yOc i1 i2 i3 (yCT (G 2) (G 3) (G 4) (if yDoes r2 c2 s2 lr lc ti i1.toNatClampNeg i2.toNatClampNeg = true then G 5 i1.toNatClampNeg i2.toNatClampNeg else 0) (yC3 r2 k2 c2 g2 s2 lr lc (G 8) (G 9) ti go i1.toNatClampNeg i2.toNatClampNeg) i1.toNatClampNeg i2.toNatClampNeg i3)) sh m L k G) := by
  obtain ⟨J2, Y, ⟨h13, h14, h15, h16, h17⟩, ⟨h3, h4, h5, h6⟩, ⟨q8, q9, q10, q11⟩, ht, hg, hD⟩ := hr
  have tb := yTb_of (st := yJst r2 k2 c2 g2 (G 8) (G 9)) J2 Y ht (yJst_of (G 8) (G 9) J2).1 (by have := (yJst_of (G 8) (G 9) J2).2; have := J2.2.1.2; omega)
  obtain ⟨x, hx, hp⟩ := e_ofCell_r (B := G 2) (K := G 3) (U := G 4) (S := G 5) (G := G 8) (H := G 9) (go := go) (i1 := i1) (i2 := i2) (i3 := i3) J2 Y ht (by omega)
  have hp := yOc_of (v2 := fun i j => if yDoes r2 c2 s2 lr lc ti i j = true then G 5 i j else 0) (v3 := fun i j => yC3 r2 k2 c2 g2 s2 lr lc (G 8) (G 9) ti go i j) hp
  subst hp
  match sh with
  | 0 => exact absurd hs (by decide)
  | 1 => exact absurd hs (by decide)
  | z + 2 =>
    unfold gX9w_ofCell yAns
    rw [show min (z + 2) 2 = 2 by omega]
    dsimp only
    simp only [h13, h14, h15, h16, h17, h3, h4, h5, h6, q8, q9, q10, q11]
    exact bto hx rfl
theorem s4_ofCell {W : Nat} {n : Nat → Int32} {t : Nat → Nat → Int32} {sh : Nat} {m : Nat → Int32} {L : Int64} {k : Nat → Nat} {G : Nat → Nat → Nat → Int32} {on : Int64} {i1 : Int32} {i2 : Int32} {i3 : Int32} (h : yR4 W n t sh m L k G) : ∃ x y, gL_ofCell n t on i1 i2 i3 = some x ∧ gX9w_ofCell sh m L k G i1 i2 i3 = some y ∧ yR4 W x.2.1 x.2.2.1 y.2.1 y.2.2.1 y.2.2.2.1 y.2.2.2.2.1 y.2.2.2.2.2 ∧ y.2.2.1 0 = x.1 ∧ (x.1 = 0 → x.2.2.2 = y.1.toInt64) := by
  obtain ⟨h2, hw⟩ := id h
  obtain ⟨hC, r, kk, c, g, s, hM, hn, h0, h1⟩ := id h2
  obtain ⟨⟨a1, a2⟩, ⟨a3, a4⟩, ⟨a5, a6⟩, a7, a8⟩ := id hM.1
  have cut : yIn i1 0 4 = true → yIn i2 0 4 = true → ∃ i j, i < 5 ∧ j < 5 ∧ i1 = nI i ∧ i2 = nI j := fun z1 z2 => by
    have e1 := yIn_of z1
    have e2 := yIn_of z2
    exact ⟨i1.toInt.toNat, i2.toInt.toNat, by omega, by omega, nj_to (by omega), nj_to (by omega)⟩
  by_cases hs : 2 ≤ sh
  · obtain ⟨r2, k2, c2, g2, s2, lr, lc, ti, go, hr', e19, f5, f6, e10, ⟨e24, e25, e26, e27, e28, e29, e30, e31, e32⟩, hC', z7, z8, z4, z5, zX⟩ := hw.2.2.2.2.1 hs
    have ff := yFrom_step (st := yJst r2 k2 c2 g2 (G 8) (G 9)) hr'.2.2.2.2.2.1
    have fl := yFrom_le (ti := ti) (st := yJst r2 k2 c2 g2 (G 8) (G 9)) hr'.1 hr'.2.1 (yJst_of (G 8) (G 9) hr'.1).1 (by have := (yJst_of (G 8) (G 9) hr'.1).2; have := hr'.1.2.1.2; omega)
    have hgo := hr'.2.2.2.2.2.2.1
    have runs : fX5_runs (n 15) = some (yb true) := by
      rw [hC'.2.2.2.2.1]
      refine (c_runs (by dsimp only; omega)).trans ?_
      rw [beq_false_of_ne (show yFrom r2 c2 s2 lr lc (yJst r2 k2 c2 g2 (G 8) (G 9)) ti - go ≠ 0 by omega)]
      rfl
    have tb := yTb_of (st := yJst r2 k2 c2 g2 (G 8) (G 9)) hr'.1 hr'.2.1 hr'.2.2.2.2.2.1 (yJst_of (G 8) (G 9) hr'.1).1 (by have := (yJst_of (G 8) (G 9) hr'.1).2; have := hr'.1.2.1.2; omega)
    have ey := eM_ofCell_r (L := L) (i1 := i1) (i2 := i2) (i3 := i3) sh hs hM hr'
    obtain ⟨x, ex, hx1, hx2⟩ := aL_ofCell (on := on) (i3 := i3) (v := yCT (G 2) (G 3) (G 4) (if yDoes r2 c2 s2 lr lc ti i1.toNatClampNeg i2.toNatClampNeg = true then G 5 i1.toNatClampNeg i2.toNatClampNeg else 0) (yC3 r2 k2 c2 g2 s2 lr lc (G 8) (G 9) ti go i1.toNatClampNeg i2.toNatClampNeg) i1.toNatClampNeg i2.toNatClampNeg i3) (n := n) (t := t) (i1 := i1) (i2 := i2) (fun z1 z2 => by
      obtain ⟨i, j, hi, hj, rfl, rfl⟩ := cut z1 z2
      rw [nj_cl (by omega), nj_cl (by omega), e24, e25, e26, e27, e28, e29, e30, hC'.2.1, hC'.2.2.1, hC'.2.2.2.1]
      exact c_cell_r hr'.1 hr'.2.1 hr'.2.2.2.2.2.1 (by dsimp only; omega) runs hw.1 hw.2.1 hw.2.2.1 hC'.2.2.2.2.2.2.1 hC'.2.2.2.2.2.2.2.1 hi hj)
    obtain ⟨x2, ex2, px⟩ := ogL_ofCell (t := t) (on := on) (i1 := i1) (i2 := i2) (i3 := i3) hC
    rw [ex] at ex2
    cases ex2
    obtain ⟨y2, ey2, py⟩ := og9_ofCell (L := L) (i1 := i1) (i2 := i2) (i3 := i3) hM
    rw [ey] at ey2
    cases ey2
    exact ⟨_, _, ex, ey, ⟨yR2_mk hn h0 h1 px (fr_ofCell ex) py, yRest_congr (f4_ofCell ex) (m4_ofCell ey) hw⟩, hx1.symm, fun z => hx2 (hx1.symm.trans z)⟩
  · have hi := hw.2.2.2.2.2 hs
    have ey := eM_ofCell_i (L := L) (i1 := i1) (i2 := i2) (i3 := i3) sh hs hM
    obtain ⟨x, ex, hx1, hx2⟩ := aL_ofCell (on := on) (i3 := i3) (v := yCT (G 2) (G 3) (G 4) 0 (-1) i1.toNatClampNeg i2.toNatClampNeg i3) (n := n) (t := t) (i1 := i1) (i2 := i2) (fun z1 z2 => by
      obtain ⟨i, j, hi', hj, rfl, rfl⟩ := cut z1 z2
      rw [nj_cl (by omega), nj_cl (by omega), hi.1]
      exact c_cell_i hw.1 hw.2.1 hw.2.2.1 hi.2.2.1 hi' hj)
    obtain ⟨x2, ex2, px⟩ := ogL_ofCell (t := t) (on := on) (i1 := i1) (i2 := i2) (i3 := i3) hC
    rw [ex] at ex2
    cases ex2
    obtain ⟨y2, ey2, py⟩ := og9_ofCell (L := L) (i1 := i1) (i2 := i2) (i3 := i3) hM
    rw [ey] at ey2
    cases ey2
    exact ⟨_, _, ex, ey, ⟨yR2_mk hn h0 h1 px (fr_ofCell ex) py, yRest_congr (f4_ofCell ex) (m4_ofCell ey) hw⟩, hx1.symm, fun z => hx2 (hx1.symm.trans z)⟩
theorem yRest_res {W : Nat} {sh sh2 : Nat} {n : Nat → Int32} {t : Nat → Nat → Int32} {m : Nat → Int32} {L : Int64} {k : Nat → Nat} {G : Nat → Nat → Nat → Int32} {x : Int32} {v : Nat → Int32} {R : Nat → Nat → Int32} (hs : sh2 = min sh 2) (h : yRest W n t sh m L k G) (hr : 2 ≤ sh → v = t 4) (hi : ¬ 2 ≤ sh → yTq (k 4) (k 5) v R) : yRest W n (va_up t 4 v) sh2 (va_up m 0 x) L k (va_up G 6 R) := by
  obtain ⟨a, b, c, d, e, f⟩ := h
  subst hs
  refine ⟨a, b, c, d, fun z => ?_, fun z => ?_⟩
  · rw [min2] at z
    obtain ⟨r2, k2, c2, g2, s2, lr, lc, ti, go, w⟩ := e z
    have e4 : va_up t 4 v = t := by
      rw [hr z]
      funext i
      unfold va_up
      by_cases q : i = 4
      · rw [if_pos q, q]
      · rw [if_neg q]
    rw [e4]
    exact ⟨r2, k2, c2, g2, s2, lr, lc, ti, go, w⟩
  · rw [min2] at z
    obtain ⟨w1, w2, w3, w4, w5, w6, w7, w8, w9, w10⟩ := f z
    exact ⟨w1, w2, w3, w4, w5, w6, w7, w8, hi z, w10⟩
def yA6 (sh : Nat) (m : Nat → Int32) (L : Int64) (k : Nat → Nat) (G : Nat → Nat → Nat → Int32) (v : Int32 × Int32 × (Nat → Nat → Int32)) : Int32 × Nat × (Nat → Int32) × Int64 × (Nat → Nat) × (Nat → Nat → Nat → Int32) := (v.1, min sh 2, va_up m 0 v.2.1, L, k, va_up G 6 v.2.2)
theorem eM_bend {sh r kk c g s : Nat} {m : Nat → Int32} {L : Int64} {k : Nat → Nat} {G : Nat → Nat → Nat → Int32} {i1 : Int32} {i2 : Int32} {i3 : Int32} (h : yMw sh m k G r kk c g s) : gX9w_bend sh m L k G i1 i2 i3 = some (yA6 sh m L k G (if yHas (k 4) (k 5) i1 i2 = true then (if yIn i3 (-999) 999 = true then (G 6 i1.toNatClampNeg i2.toNatClampNeg + i3, 0, upg (G 6) i1.toNatClampNeg i2.toNatClampNeg (G 6 i1.toNatClampNeg i2.toNatClampNeg + i3)) else (0, 2, G 6)) else (0, 1, G 6))) := by
  obtain ⟨J, hm, b1, b2, q4, q5, hr⟩ := id h
  match sh with
  | 0 =>
    unfold gX9w_bend
    exact bto (e_bend_i q4 q5) rfl
  | 1 =>
    unfold gX9w_bend
    exact bto (e_bend_i q4 q5) rfl
  | z + 2 =>
    unfold gX9w_bend yA6
    rw [show min (z + 2) 2 = 2 by omega]
    exact bto (e_bend_r q4 q5) rfl
theorem eM_check {sh r kk c g s : Nat} {m : Nat → Int32} {L : Int64} {k : Nat → Nat} {G : Nat → Nat → Nat → Int32}  (h : yMw sh m k G r kk c g s) (hk : 1 ≤ k 4 → 1 ≤ k 5) : gX9w_check sh m L k G  = some (yA6 sh m L k G (if k 4 = 0 ∨ m 7 = 0 then (0, 1, G 6) else (nI (yVerd (k 4) (k 5) (G 6)), 0, if yVerd (k 4) (k 5) (G 6) = 1 then upg (G 6) (yJr (k 4) (k 5) (G 6)) (yJc (k 4) (k 5) (G 6)) (G 6 (yJr (k 4) (k 5) (G 6)) (yJc (k 4) (k 5) (G 6)) + yRowD (k 4) (k 5) (G 6) (yJr (k 4) (k 5) (G 6)) (yJc (k 4) (k 5) (G 6))) else G 6))) := by
  obtain ⟨J, hm, b1, b2, q4, q5, hr⟩ := id h
  match sh with
  | 0 =>
    unfold gX9w_check
    exact bto (e_check_i q4 q5 hk) rfl
  | 1 =>
    unfold gX9w_check
    exact bto (e_check_i q4 q5 hk) rfl
  | z + 2 =>
    unfold gX9w_check yA6
    rw [show min (z + 2) 2 = 2 by omega]
    exact bto (e_check_r q4 q5 hk) rfl
theorem aL_bend {n : Nat → Int32} {t : Nat → Nat → Int32} {on : Int64} {Rn Rk : Nat} {R : Nat → Nat → Int32} {i1 i2 i3 : Int32} (h1 : Rn ≤ 9) (h2 : Rk ≤ 9) (h7 : n 7 = nI Rn) (h8 : n 8 = nI Rk) (hv : yTq Rn Rk (t 4) R) : gL_bend n t on i1 i2 i3 = some (if yHas Rn Rk i1 i2 = true then (if yIn i3 (-999) 999 = true then (0, n, va_up t 4 (upd (t 4) (i1.toNatClampNeg * 9 + i2.toNatClampNeg) (R i1.toNatClampNeg i2.toNatClampNeg + i3)), (R i1.toNatClampNeg i2.toNatClampNeg + i3).toInt64) else (2, n, va_up t 4 (t 4), on)) else (1, n, va_up t 4 (t 4), on)) := by
  unfold gL_bend fL_bend
  simp only [h7, h8]
  have e := c_bend (i1 := i1) (i2 := i2) (i3 := i3) h1 h2 hv
  by_cases c : yHas Rn Rk i1 i2 = true
  · rw [if_pos c] at e ⊢
    by_cases d : yIn i3 (-999) 999 = true
    · rw [if_pos d] at e ⊢
      exact bto (bto e rfl) rfl
    · rw [if_neg d] at e ⊢
      exact bto (bto e rfl) rfl
  · rw [if_neg c] at e ⊢
    exact bto (bto e rfl) rfl
theorem aL_check {n : Nat → Int32} {t : Nat → Nat → Int32} {on : Int64} {Rn Rk : Nat} {R : Nat → Nat → Int32} (h1 : Rn ≤ 9) (h2 : Rk ≤ 9) (h7 : n 7 = nI Rn) (h8 : n 8 = nI Rk) (hk : 1 ≤ Rn → 1 ≤ Rk) (hv : yTq Rn Rk (t 4) R) : gL_check n t on = some (if Rn = 0 ∨ n 9 = 0 then (1, n, va_up t 4 (t 4), on) else (0, n, va_up t 4 (yRes Rn Rk (t 4) R), (nI (yVerd Rn Rk R)).toInt64)) := by
  unfold gL_check fL_check
  simp only [h7, h8]
  have e := c_check (zs := n 9) h1 h2 hk hv
  by_cases c : Rn = 0 ∨ n 9 = 0
  · rw [if_pos c] at e ⊢
    exact bto (bto e rfl) rfl
  · rw [if_neg c] at e ⊢
    exact bto (bto e rfl) rfl
theorem yR2_6 {n : Nat → Int32} {t : Nat → Nat → Int32} {sh : Nat} {m : Nat → Int32} {k : Nat → Nat} {G : Nat → Nat → Nat → Int32} (x : Int32) (v : Nat → Int32) (R : Nat → Nat → Int32) (h : yR2 n t sh m k G) : yR2 n (va_up t 4 v) (min sh 2) (va_up m 0 x) k (va_up G 6 R) := by
  obtain ⟨hC, r, kk, c, g, s, hM, hn, h0, h1⟩ := h
  exact ⟨hC, r, kk, c, g, s, yMw_6 (yMw_m hM), hn, h0, h1⟩
theorem s4_bend {W : Nat} {n : Nat → Int32} {t : Nat → Nat → Int32} {sh : Nat} {m : Nat → Int32} {L : Int64} {k : Nat → Nat} {G : Nat → Nat → Nat → Int32} {on : Int64} {i1 : Int32} {i2 : Int32} {i3 : Int32} (h : yR4 W n t sh m L k G) : ∃ x y, gL_bend n t on i1 i2 i3 = some x ∧ gX9w_bend sh m L k G i1 i2 i3 = some y ∧ yR4 W x.2.1 x.2.2.1 y.2.1 y.2.2.1 y.2.2.2.1 y.2.2.2.2.1 y.2.2.2.2.2 ∧ y.2.2.1 0 = x.1 ∧ (x.1 = 0 → x.2.2.2 = y.1.toInt64) := by
  obtain ⟨h2, hw⟩ := id h
  obtain ⟨hC, r, kk, c, g, s, hM, hn, h0, h1⟩ := id h2
  obtain ⟨⟨a1, a2⟩, ⟨a3, a4⟩, ⟨a5, a6⟩, a7, a8⟩ := id hM.1
  have hR4 : k 4 ≤ 9 := hM.2.2.2.2.1
  have hR5 : k 5 ≤ 9 := hM.2.2.2.2.2.1
  have hv : n 7 = nI (k 4) ∧ n 8 = nI (k 5) ∧ yTq (k 4) (k 5) (t 4) (G 6) ∧ (k 4 = 0 → k 5 = 0) ∧ (1 ≤ k 4 → 1 ≤ k 5 ∧ n 9 = m 7) := by
    obtain ⟨_, _, _, _, w1, w2⟩ := hw
    by_cases hs : 2 ≤ sh
    · obtain ⟨r2, k2, c2, g2, s2, lr, lc, ti, go, _, _, _, _, _, _, _, a, b, c', d, _⟩ := w1 hs
      exact ⟨by rw [a, c']; rfl, by rw [b, d]; rfl, fun i j hi _ => by rw [c'] at hi; exact absurd hi (Nat.not_lt_zero _), fun _ => d, fun z => by omega⟩
    · obtain ⟨_, _, _, _, a, b, c', d, e, _⟩ := w2 hs
      exact ⟨a, b, e, c', d⟩
  obtain ⟨v7, v8, vv, -, -⟩ := hv
  have ex := aL_bend (on := on) (i1 := i1) (i2 := i2) (i3 := i3) hR4 hR5 v7 v8 vv
  have ey := eM_bend (L := L) (i1 := i1) (i2 := i2) (i3 := i3) hM
  by_cases hh : yHas (k 4) (k 5) i1 i2 = true
  · rw [if_pos hh] at ex ey
    by_cases hd : yIn i3 (-999) 999 = true
    · rw [if_pos hd] at ex ey
      obtain ⟨i, j, hi, hj, rfl, rfl⟩ := yHas_of hh
      rw [nj_cl (by omega), nj_cl (by omega)] at ex ey
      refine ⟨_, _, ex, ey, ⟨yR2_6 _ _ _ h2, yRest_res rfl hw (fun z => ?_) (fun _ => yTq_up vv hR5 hi hj)⟩, rfl, fun _ => rfl⟩
      obtain ⟨_, _, _, _, _, _, _, _, _, _, _, _, _, _, _, _, _, _, z4, _⟩ := hw.2.2.2.2.1 z
      omega
    · rw [if_neg hd] at ex ey
      exact ⟨_, _, ex, ey, ⟨yR2_6 _ _ _ h2, yRest_res rfl hw (fun _ => rfl) (fun _ => vv)⟩, rfl, fun z => absurd z (show ¬ (2 : Int32) = 0 by decide)⟩
  · rw [if_neg hh] at ex ey
    exact ⟨_, _, ex, ey, ⟨yR2_6 _ _ _ h2, yRest_res rfl hw (fun _ => rfl) (fun _ => vv)⟩, rfl, fun z => absurd z (show ¬ (1 : Int32) = 0 by decide)⟩
theorem s4_check {W : Nat} {n : Nat → Int32} {t : Nat → Nat → Int32} {sh : Nat} {m : Nat → Int32} {L : Int64} {k : Nat → Nat} {G : Nat → Nat → Nat → Int32} {on : Int64}  (h : yR4 W n t sh m L k G) : ∃ x y, gL_check n t on  = some x ∧ gX9w_check sh m L k G  = some y ∧ yR4 W x.2.1 x.2.2.1 y.2.1 y.2.2.1 y.2.2.2.1 y.2.2.2.2.1 y.2.2.2.2.2 ∧ y.2.2.1 0 = x.1 ∧ (x.1 = 0 → x.2.2.2 = y.1.toInt64) := by
  obtain ⟨h2, hw⟩ := id h
  obtain ⟨hC, r, kk, c, g, s, hM, hn, h0, h1⟩ := id h2
  obtain ⟨⟨a1, a2⟩, ⟨a3, a4⟩, ⟨a5, a6⟩, a7, a8⟩ := id hM.1
  have hR4 : k 4 ≤ 9 := hM.2.2.2.2.1
  have hR5 : k 5 ≤ 9 := hM.2.2.2.2.2.1
  have hv : n 7 = nI (k 4) ∧ n 8 = nI (k 5) ∧ yTq (k 4) (k 5) (t 4) (G 6) ∧ (k 4 = 0 → k 5 = 0) ∧ (1 ≤ k 4 → 1 ≤ k 5 ∧ n 9 = m 7) := by
    obtain ⟨_, _, _, _, w1, w2⟩ := hw
    by_cases hs : 2 ≤ sh
    · obtain ⟨r2, k2, c2, g2, s2, lr, lc, ti, go, _, _, _, _, _, _, _, a, b, c', d, _⟩ := w1 hs
      exact ⟨by rw [a, c']; rfl, by rw [b, d]; rfl, fun i j hi _ => by rw [c'] at hi; exact absurd hi (Nat.not_lt_zero _), fun _ => d, fun z => by omega⟩
    · obtain ⟨_, _, _, _, a, b, c', d, e, _⟩ := w2 hs
      exact ⟨a, b, e, c', d⟩
  obtain ⟨v7, v8, vv, vz, vy⟩ := hv
  have ex := aL_check (on := on) hR4 hR5 v7 v8 (fun z => (vy z).1) vv
  have ey := eM_check (L := L) hM (fun z => (vy z).1)
  by_cases hh : k 4 = 0 ∨ m 7 = 0
  · have hh2 : k 4 = 0 ∨ n 9 = 0 := by
      by_cases z : k 4 = 0
      · exact Or.inl z
      · exact Or.inr (((vy (by omega)).2).trans (hh.elim (fun w => absurd w z) id))
    rw [if_pos hh2] at ex
    rw [if_pos hh] at ey
    exact ⟨_, _, ex, ey, ⟨yR2_6 _ _ _ h2, yRest_res rfl hw (fun _ => rfl) (fun _ => vv)⟩, rfl, fun z => absurd z (show ¬ (1 : Int32) = 0 by decide)⟩
  · have hn4 : ¬ k 4 = 0 := fun z => hh (Or.inl z)
    have hh2 : ¬ (k 4 = 0 ∨ n 9 = 0) := fun z => z.elim hn4 (fun w => hh (Or.inr (((vy (by omega)).2).symm.trans w)))
    rw [if_neg hh2] at ex
    rw [if_neg hh] at ey
    refine ⟨_, _, ex, ey, ⟨yR2_6 _ _ _ h2, yRest_res rfl hw (fun z => ?_) (fun _ => ?_)⟩, rfl, fun _ => rfl⟩
    · obtain ⟨_, _, _, _, _, _, _, _, _, _, _, _, _, _, _, _, _, _, z4, _⟩ := hw.2.2.2.2.1 z
      omega
    · unfold yRes
      dsimp only
      by_cases hv1 : yVerd (k 4) (k 5) (G 6) = 1
      · rw [if_pos hv1, if_pos hv1]
        have hv2 : ¬ (yCnt (k 4) (yRw (k 5) (G 6)) = 0 ∧ yCnt (k 5) (yCw (k 4) (G 6)) = 0) := fun z => by
          have : yVerd (k 4) (k 5) (G 6) = 0 := if_pos z
          omega
        have hv3 : yCnt (k 4) (yRw (k 5) (G 6)) = 1 ∧ yCnt (k 5) (yCw (k 4) (G 6)) = 1 := by
          by_cases w : yCnt (k 4) (yRw (k 5) (G 6)) = 1 ∧ yCnt (k 5) (yCw (k 4) (G 6)) = 1 ∧ yRowD (k 4) (k 5) (G 6) (yJr (k 4) (k 5) (G 6)) (yJc (k 4) (k 5) (G 6)) = yColD (k 4) (k 5) (G 6) (yJr (k 4) (k 5) (G 6)) (yJc (k 4) (k 5) (G 6))
          · exact ⟨w.1, w.2.1⟩
          · have : yVerd (k 4) (k 5) (G 6) = 2 := (if_neg hv2).trans (if_neg w)
            omega
        exact yTq_up vv hR5 (yLast_lt (by omega)) (yLast_lt (by omega))
      · rw [if_neg hv1, if_neg hv1]
        exact vv
