/-! ===== the class while no work runs ===== -/
def yS4 (W : Nat) (n : Nat → Int32) (t : Nat → Nat → Int32) (r kk c g s : Nat) (G H B K : Nat → Nat → Int32) (Rn Rk : Nat) (U R : Nat → Nat → Int32) : Prop := (yJob r kk c g s ∧ (s = 1 → g = 0) ∧ n 0 = nI r ∧ n 1 = nI kk ∧ n 2 = nI c ∧ n 3 = nI g ∧ n 4 = nI s) ∧ (yTG (t 0) G ∧ yTG (t 1) H) ∧ (yFlag (n 5) B ∧ yFlag (n 6) K ∧ BG K ∧ ySub B K) ∧ n 15 = 0 ∧ yT5 (t 2) U ∧ (n 7 = nI Rn ∧ n 8 = nI Rk ∧ Rn ≤ 9 ∧ Rk ≤ 9 ∧ (Rn = 0 → Rk = 0) ∧ (1 ≤ Rn → 1 ≤ Rk) ∧ yTq Rn Rk (t 4) R) ∧ ∃ ta, yXE W (n 16) ta U (n 18)
theorem yS4_same {W : Nat} {n n2 : Nat → Int32} {t t2 : Nat → Nat → Int32} {r kk c g s Rn Rk : Nat} {G H B K U R : Nat → Nat → Int32} (h : yS4 W n t r kk c g s G H B K Rn Rk U R) (e0 : n2 0 = n 0) (e1 : n2 1 = n 1) (e2 : n2 2 = n 2) (e3 : n2 3 = n 3) (e4 : n2 4 = n 4) (e5 : n2 5 = n 5) (e6 : n2 6 = n 6) (e7 : n2 7 = n 7) (e8 : n2 8 = n 8) (e15 : n2 15 = n 15) (e16 : n2 16 = n 16) (e18 : n2 18 = n 18) (f0 : t2 0 = t 0) (f1 : t2 1 = t 1) (f2 : t2 2 = t 2) (f4 : t2 4 = t 4) : yS4 W n2 t2 r kk c g s G H B K Rn Rk U R := by
  unfold yS4
  rw [e0, e1, e2, e3, e4, e5, e6, e7, e8, e15, e16, e18, f0, f1, f2, f4]
  exact h
theorem yS4_mono {W V : Nat} {n : Nat → Int32} {t : Nat → Nat → Int32} {r kk c g s Rn Rk : Nat} {G H B K U R : Nat → Nat → Int32} (h : yS4 W n t r kk c g s G H B K Rn Rk U R) (hW : W ≤ V) : yS4 V n t r kk c g s G H B K Rn Rk U R := by
  obtain ⟨a, b, c, d, e, f, ta, x⟩ := h
  exact ⟨a, b, c, d, e, f, ta, yXE_mono x hW⟩
theorem yS4_q {W : Nat} {n : Nat → Int32} {t : Nat → Nat → Int32} {r kk c g s Rn Rk : Nat} {G H B K U R : Nat → Nat → Int32} (h : yS4 W n t r kk c g s G H B K Rn Rk U R) : yTq r kk (t 0) G ∧ yTq kk c (t 1) H := by
  obtain ⟨⟨⟨⟨a1, a2⟩, ⟨a3, a4⟩, ⟨a5, a6⟩, a7, a8⟩, _⟩, ⟨b1, b2⟩, _⟩ := h
  exact ⟨b1.q (by omega) (by omega), b2.q (by omega) (by omega)⟩
theorem g_best {W : Nat} {n : Nat → Int32} {t : Nat → Nat → Int32} {r kk c g s Rn Rk : Nat} {G H B K U R : Nat → Nat → Int32} (h : yS4 W n t r kk c g s G H B K Rn Rk U R) : ∃ x, gX6_best n t 0 = some x ∧ x.1 = yBT (r + s) (c + s) (yJst r kk c g G H) (yJb r kk c g s G H K) 0 ∧ yS4 W x.2.1 x.2.2 r kk c g s G H B K Rn Rk U R := by
  obtain ⟨⟨J, _, h0, h1, h2, h3, h4⟩, _, ⟨_, hK, _⟩, _⟩ := id h
  obtain ⟨hf, hh⟩ := yS4_q h
  obtain ⟨⟨a1, a2⟩, ⟨a3, a4⟩, ⟨a5, a6⟩, a7, a8⟩ := id J
  have st := yJst_of G H J
  obtain ⟨o6, e6, p0, p1, p2, p3, p4⟩ := c_findBest (x3 := n 47) (x4 := n 48) (x5 := n 49) (x6 := n 50) (x7 := n 51) (x8 := n 52) (x9 := n 53) J hf hh hK
  obtain ⟨o1, o2, o3, o4, o5, o7, o8, o9, o10, o11, ot⟩ := o6
  dsimp only at p1 p2 p3 p4
  unfold yLy at p4
  cases p4
  subst p1 p2 p3
  have bn := c_bestNumber (i1 := 0) p0 (by omega) (by omega) st.1
  unfold gX6_best fX6_best
  simp only [h0, h1, h2, h3, h4]
  exact ⟨_, bto ((if_neg (show ¬ (0 : Int32) < 0 by decide)).trans ((if_pos (show (0 : Int32) ≤ 4 by decide)).trans (bto e6 (bto bn rfl)))) rfl, rfl, yS4_same h rfl rfl rfl rfl rfl rfl rfl rfl rfl rfl rfl rfl rfl rfl rfl rfl⟩
theorem g_beats {W a b : Nat} {n : Nat → Int32} {t : Nat → Nat → Int32} {r kk c g s Rn Rk : Nat} {G H B K U R : Nat → Nat → Int32} (h : yS4 W n t r kk c g s G H B K Rn Rk U R) (ha : 1 ≤ a) (ha2 : a < 32) (hb : 1 ≤ b) (hb2 : b < 32) : ∃ x, gX6_beats n t (nI a) (nI b) = some x ∧ x.1 = (if yCross K a b = true then -1 else nI (yBeats (r + s) (c + s) (yPop a) (yPop b) (yJst r kk c g G H))) ∧ yS4 W x.2.1 x.2.2 r kk c g s G H B K Rn Rk U R := by
  obtain ⟨⟨J, _, h0, h1, h2, h3, h4⟩, _, ⟨_, hK, _⟩, _⟩ := id h
  obtain ⟨hf, hh⟩ := yS4_q h
  obtain ⟨⟨a1, a2⟩, ⟨a3, a4⟩, ⟨a5, a6⟩, a7, a8⟩ := id J
  have st := yJst_of G H J
  have l31 : Int32.toInt 31 = 31 := by decide
  have c1 : ¬ nI a < 1 := by rw [yi_lt, yI1, yi_nI (by omega)]; omega
  have c2 : ¬ 31 < nI a := by rw [yi_lt, l31, yi_nI (by omega)]; omega
  have c3 : ¬ nI b < 1 := by rw [yi_lt, yI1, yi_nI (by omega)]; omega
  have c4 : nI b ≤ 31 := by rw [yi_le, l31, yi_nI (by omega)]; omega
  have q1 := yPops ha ha2
  have q2 := yPops hb hb2
  have em := c_measure J hf hh
  rw [yBf_eq q1.1 q2.1 st.1]
  have eb := c_beatsOn (R := r + s) (C := c + s) (q := yJst r kk c g G H) (t3 := n 47) (t4 := n 48) (t5 := n 49) (t6 := n 50) (t7 := n 51) (t8 := n 52) (t9 := n 53) hK (by omega) (by omega) st.1 ha2 hb2
  unfold gX6_beats fX6_beats
  simp only [h0, h1, h2, h3, h4]
  cases hc : yCross K a b
  · rw [hc, if_neg (show ¬ false = true by decide)] at eb
    rw [if_neg (show ¬ false = true by decide)]
    exact ⟨_, bto ((if_neg c1).trans ((if_neg c2).trans ((if_neg c3).trans ((if_pos c4).trans (bto em (bto eb rfl)))))) rfl, rfl, yS4_same h rfl rfl rfl rfl rfl rfl rfl rfl rfl rfl rfl rfl rfl rfl rfl rfl⟩
  · rw [hc, if_pos rfl] at eb
    rw [if_pos rfl]
    exact ⟨_, bto ((if_neg c1).trans ((if_neg c2).trans ((if_neg c3).trans ((if_pos c4).trans (bto em (bto eb rfl)))))) rfl, rfl, yS4_same h rfl rfl rfl rfl rfl rfl rfl rfl rfl rfl rfl rfl rfl rfl rfl rfl⟩
theorem g_test {W : Nat} {n : Nat → Int32} {t : Nat → Nat → Int32} {r kk c g s Rn Rk : Nat} {G H B K U R : Nat → Nat → Int32} (h : yS4 W n t r kk c g s G H B K Rn Rk U R) (hB : BG B) : ∃ x, gX6_test n t = some x ∧ yS4 W x.2.1 x.2.2 r kk c g s G H B B Rn Rk U R := by
  obtain ⟨⟨J, jg, h0, h1, h2, h3, h4⟩, ⟨b1, b2⟩, ⟨d1, d2, d3, d4⟩, h15, e, f, x⟩ := id h
  have ef : fX0_findBroken (n 5) (n 6) = some (nI (yCount 5 5 (yDf B K)), n 5) := by
    unfold fX0_findBroken
    exact bto (yFlag_count (yFlag_df d1 d2)) rfl
  have er : fX5_runs (n 15) = some 0 := by
    rw [h15]
    rfl
  unfold gX6_test fX6_test
  exact ⟨_, bto (bto er ((if_pos rfl).trans (bto ef rfl))) rfl, ⟨J, jg, h0, h1, h2, h3, h4⟩, ⟨b1, b2⟩, ⟨d1, d1, hB, fun i j _ _ z => z⟩, h15, e, f, x⟩
theorem g_mesh {W : Nat} {n : Nat → Int32} {t : Nat → Nat → Int32} {r kk c g s Rn Rk : Nat} {G H B K U R : Nat → Nat → Int32} (h : yS4 W n t r kk c g s G H B K Rn Rk U R) (i1 : Int32) (hi : i1 = 0 ∨ i1 = 2 ∨ i1 = 4) : gX6_mesh n t i1 = some (if i1 = 0 then nI r else if i1 = 2 then nI c else nI s, n, t) := by
  obtain ⟨⟨J, _, h0, h1, h2, h3, h4⟩, _, ⟨d1, d2, _⟩, h15, _, ⟨f1, f2, f3, f4, f5, f6, f7⟩, _⟩ := id h
  obtain ⟨hf, hh⟩ := yS4_q h
  have er : fX5_runs (n 15) = some (yb false) := by
    rw [h15]
    rfl
  have hv : yIn i1 0 15 = true := by rcases hi with rfl | rfl | rfl <;> decide
  have e := c_mesh (i1 := i1) (oti := n 11) (be := n 16) (wo := n 17) false J hf hh d1 d2 er f5 hv
  unfold gX6_mesh
  rw [h0, h1, h2, h3, h4, f1, f2]
  refine bto e ?_
  rcases hi with rfl | rfl | rfl <;> rfl
