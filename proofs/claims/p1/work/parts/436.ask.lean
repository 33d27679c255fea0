/-! ===== start, mesh, cells, checks, whole, digest of the reference ===== -/
theorem e_begin_i {r k c g s : Nat} {G H K S : Nat → Nat → Int32} {wo : Int32} (J : yJob r k c g s) : fX9_begin_i wo (nI r) (nI k) (nI c) (nI g) (nI s) r k G k c H K S = some (if (yJb r k c g s G H K).2.1 = 0 then .inl (0, 1) else .inr (nI (yFrom r c s (yJb r k c g s G H K).2.1 (yJb r k c g s G H K).2.2 (yJst r k c g (yTop r G (fun _ _ => 0)) (yTop k H (fun _ _ => 0))) 0), 0, wo + 1, nI (yJb r k c g s G H K).2.1, nI (yJb r k c g s G H K).2.2, 0, 0, yFill g S, nI r, nI k, nI c, nI g, nI s, r, k, yTop r G (fun _ _ => 0), k, c, yTop k H (fun _ _ => 0))) := by
  obtain ⟨⟨a1, a2⟩, ⟨a3, a4⟩, ⟨a5, a6⟩, a7, a8⟩ := id J
  unfold fX9_begin_i
  obtain ⟨x, hx, hp⟩ := e_bestJ (G := G) (H := H) (K := K) J
  refine bto hx ?_
  obtain ⟨xf, xn⟩ := x
  generalize yJb r k c g s G H K = z at hp ⊢
  rcases hp with ⟨h1, h2⟩ | ⟨h1, h2, h3, h4, h5, h6, h7⟩
  · have h2 : xn = 0 := h2
    rw [if_pos h1, h2]
    refine bto (show _ = some (1 : Int32) from if_pos rfl) ?_
    refine bto (e_start_i (by decide)) ?_
    rfl
  · have h5 : xn = 2 := h5
    have k6 : xf 0 = nI z.2.1 := h6
    have k7 : xf 1 = nI z.2.2 := h7
    subst h5
    rw [if_neg (show ¬ z.2.1 = 0 by omega)]
    refine bto (show _ = some (0 : Int32) from if_neg (show ¬ nI 2 = 0 by decide)) ?_
    refine bto (e_start_i (by decide)) ?_
    refine (if_pos rfl).trans ?_
    refine bto hx ?_
    refine bto (e_copy J) ?_
    dsimp only
    rw [cl0, cl1, k6, k7]
    refine (if_pos (show ¬ ((0 : Int32) < 0 ∨ 2 ≤ 0) by decide)).trans ?_
    refine (if_pos (show ¬ ((1 : Int32) < 0 ∨ 2 ≤ 1) by decide)).trans ?_
    refine bto (e_begin a7) ?_
    dsimp only
    have Y : yLay z.2.1 z.2.2 := ⟨⟨h1, h2⟩, h3, h4⟩
    have gg := yGeo J Y
    have st := yJst_of (yTop r G (fun _ _ => 0)) (yTop k H (fun _ _ => 0)) J
    have tb := yTb_of (ti := 0) J Y (by omega) st.1 (by omega)
    refine bto (e_rest (ti := 0) (go := 0) J Y (by omega) (by unfold yJst at tb; omega)) ?_
    rfl
def yMT (v : Nat → Int32) (i1 : Int32) : Int32 := if i1 = 0 then v 0 else if i1 = 1 then v 1 else if i1 = 2 then v 2 else if i1 = 3 then v 3 else if i1 = 4 then v 4 else if i1 = 5 then v 5 else if i1 = 6 then v 6 else if i1 = 7 then v 7 else if i1 = 8 then v 8 else if i1 = 9 then v 9 else if i1 = 10 then v 10 else if i1 = 11 then v 11 else if i1 = 12 then v 12 else if i1 = 13 then v 13 else if i1 = 14 then v 14 else v 15
def yMv (r k c g s : Nat) (G H B K : Nat → Nat → Int32) (be wo : Int32) (Rn Rk : Nat) (run : Int32 × Int32 × Int32) (n : Nat) : Int32 := match n with
  | 0 => nI r
  | 1 => nI k
  | 2 => nI c
  | 3 => nI g
  | 4 => nI s
  | 5 => nI (yJst r k c g G H)
  | 6 => nI (ySk k (yIdle g r G c H))
  | 7 => nI (yCount 5 5 B)
  | 8 => nI (yCount 5 5 K)
  | 9 => be
  | 10 => wo
  | 11 => run.1
  | 12 => run.2.1
  | 13 => run.2.2
  | 14 => nI Rn
  | _ => if Rn = 0 then 0 else nI Rk
theorem e_meshTold_i {r k c g s Rn Rk : Nat} {G H B K : Nat → Nat → Int32} {be wo i1 : Int32} (J : yJob r k c g s) (hR : Rn ≤ 9) : fX9_meshTold_i be wo (nI r) (nI k) (nI c) (nI g) (nI s) r k G k c H B K Rn Rk i1 = some (yMT (yMv r k c g s G H B K be wo Rn Rk (0, 0, -1)) i1) := by
  obtain ⟨⟨a1, a2⟩, ⟨a3, a4⟩, ⟨a5, a6⟩, a7, a8⟩ := id J
  unfold fX9_meshTold_i yMT

  by_cases cc0 : i1 = 0
  · refine (if_pos cc0).trans ?_
    exact Eq.trans (rfl) (congrArg some (if_pos cc0).symm)
  refine (if_neg cc0).trans ?_
  rw [if_neg cc0]
  by_cases cc1 : i1 = 1
  · refine (if_pos cc1).trans ?_
    exact Eq.trans (rfl) (congrArg some (if_pos cc1).symm)
  refine (if_neg cc1).trans ?_
  rw [if_neg cc1]
  by_cases cc2 : i1 = 2
  · refine (if_pos cc2).trans ?_
    exact Eq.trans (rfl) (congrArg some (if_pos cc2).symm)
  refine (if_neg cc2).trans ?_
  rw [if_neg cc2]
  by_cases cc3 : i1 = 3
  · refine (if_pos cc3).trans ?_
    exact Eq.trans (rfl) (congrArg some (if_pos cc3).symm)
  refine (if_neg cc3).trans ?_
  rw [if_neg cc3]
  by_cases cc4 : i1 = 4
  · refine (if_pos cc4).trans ?_
    exact Eq.trans (bto (e_oneS a8) rfl) (congrArg some (if_pos cc4).symm)
  refine (if_neg cc4).trans ?_
  rw [if_neg cc4]
  by_cases cc5 : i1 = 5
  · refine (if_pos cc5).trans ?_
    exact Eq.trans (bto (e_stepsJ J) rfl) (congrArg some (if_pos cc5).symm)
  refine (if_neg cc5).trans ?_
  rw [if_neg cc5]
  by_cases cc6 : i1 = 6
  · refine (if_pos cc6).trans ?_
    exact Eq.trans (bto (e_skipped a7 (by omega) (by omega) a3 a4 (Nat.le_refl _) (Nat.le_refl _)) rfl) (congrArg some (if_pos cc6).symm)
  refine (if_neg cc6).trans ?_
  rw [if_neg cc6]
  by_cases cc7 : i1 = 7
  · refine (if_pos cc7).trans ?_
    exact Eq.trans (bto (e_count_i (by decide) (by decide)) rfl) (congrArg some (if_pos cc7).symm)
  refine (if_neg cc7).trans ?_
  rw [if_neg cc7]
  by_cases cc8 : i1 = 8
  · refine (if_pos cc8).trans ?_
    exact Eq.trans (bto (e_count_i (by decide) (by decide)) rfl) (congrArg some (if_pos cc8).symm)
  refine (if_neg cc8).trans ?_
  rw [if_neg cc8]
  by_cases cc9 : i1 = 9
  · refine (if_pos cc9).trans ?_
    exact Eq.trans (rfl) (congrArg some (if_pos cc9).symm)
  refine (if_neg cc9).trans ?_
  rw [if_neg cc9]
  by_cases cc10 : i1 = 10
  · refine (if_pos cc10).trans ?_
    exact Eq.trans (rfl) (congrArg some (if_pos cc10).symm)
  refine (if_neg cc10).trans ?_
  rw [if_neg cc10]
  by_cases cc11 : i1 = 11
  · refine (if_pos cc11).trans ?_
    exact Eq.trans (rfl) (congrArg some (if_pos cc11).symm)
  refine (if_neg cc11).trans ?_
  rw [if_neg cc11]
  by_cases cc12 : i1 = 12
  · refine (if_pos cc12).trans ?_
    exact Eq.trans (rfl) (congrArg some (if_pos cc12).symm)
  refine (if_neg cc12).trans ?_
  rw [if_neg cc12]
  by_cases cc13 : i1 = 13
  · refine (if_pos cc13).trans ?_
    exact Eq.trans (rfl) (congrArg some (if_pos cc13).symm)
  refine (if_neg cc13).trans ?_
  rw [if_neg cc13]
  by_cases cc14 : i1 = 14
  · refine (if_pos cc14).trans ?_
    exact Eq.trans (rfl) (congrArg some (if_pos cc14).symm)
  refine (if_neg cc14).trans ?_
  rw [if_neg cc14]
  by_cases h : Rn = 0
  · rw [h]
    rfl
  · have e : yMv r k c g s G H B K be wo Rn Rk (0, 0, -1) 15 = nI Rk := if_neg h
    rw [e]
    refine (if_neg (fun z => h (by rw [li0, nj_eq (by omega) (by decide)] at z; exact z))).trans ?_
    exact if_pos (fun z => by
      rw [cl0] at z
      rcases z with z | z
      · exact absurd z (by decide)
      · omega)
theorem e_mesh_i {r k c g s Rn Rk : Nat} {G H B K : Nat → Nat → Int32} {be wo i1 : Int32} (J : yJob r k c g s) (hR : Rn ≤ 9) : fX9_mesh_i be wo (nI r) (nI k) (nI c) (nI g) (nI s) r k G k c H B K Rn Rk i1 = some (if yIn i1 0 15 = true then (yMT (yMv r k c g s G H B K be wo Rn Rk (0, 0, -1)) i1, 0) else (0, 1)) := by
  unfold fX9_mesh_i
  refine bto e_isIn ?_
  rw [yb_not]
  refine bto rfl ?_
  refine bto (e_start_i (by decide)) ?_
  have e0 : Int32.toInt 0 = 0 := by decide
  have e4 : Int32.toInt 15 = 15 := by decide
  rw [e0, e4]
  cases yIn i1 0 15
  · rfl
  · refine (if_pos rfl).trans ?_
    refine bto (e_meshTold_i J hR) ?_
    rfl
theorem e_meshTold_r {r k c g s Rn Rk : Nat} {G H B K : Nat → Nat → Int32} {be wo i1 : Int32} {r2 k2 c2 g2 s2 lr lc ti go : Nat} {G2 H2 : Nat → Nat → Int32} (J : yJob r k c g s) (hR : Rn ≤ 9) (J2 : yJob r2 k2 c2 g2 s2) (Y : yLay lr lc) (ht : ti < yNt r2 c2 s2 lr lc) (hg : go < yTb r2 c2 s2 lr lc (yJst r2 k2 c2 g2 G2 H2) ti) : fX9_meshTold_r be wo (nI lr) (nI lc) (nI ti) (nI go) (nI r) (nI k) (nI c) (nI g) (nI s) r k G k c H B K Rn Rk (nI r2) (nI k2) (nI c2) (nI g2) (nI s2) r2 k2 G2 k2 c2 H2 i1 = some (yMT (yMv r k c g s G H B K be wo Rn Rk (1, nI (yFrom r2 c2 s2 lr lc (yJst r2 k2 c2 g2 G2 H2) ti - go), nI ti)) i1) := by
  obtain ⟨⟨a1, a2⟩, ⟨a3, a4⟩, ⟨a5, a6⟩, a7, a8⟩ := id J
  unfold fX9_meshTold_r yMT

  by_cases cc0 : i1 = 0
  · refine (if_pos cc0).trans ?_
    exact Eq.trans (rfl) (congrArg some (if_pos cc0).symm)
  refine (if_neg cc0).trans ?_
  rw [if_neg cc0]
  by_cases cc1 : i1 = 1
  · refine (if_pos cc1).trans ?_
    exact Eq.trans (rfl) (congrArg some (if_pos cc1).symm)
  refine (if_neg cc1).trans ?_
  rw [if_neg cc1]
  by_cases cc2 : i1 = 2
  · refine (if_pos cc2).trans ?_
    exact Eq.trans (rfl) (congrArg some (if_pos cc2).symm)
  refine (if_neg cc2).trans ?_
  rw [if_neg cc2]
  by_cases cc3 : i1 = 3
  · refine (if_pos cc3).trans ?_
    exact Eq.trans (rfl) (congrArg some (if_pos cc3).symm)
  refine (if_neg cc3).trans ?_
  rw [if_neg cc3]
  by_cases cc4 : i1 = 4
  · refine (if_pos cc4).trans ?_
    exact Eq.trans (bto (e_oneS a8) rfl) (congrArg some (if_pos cc4).symm)
  refine (if_neg cc4).trans ?_
  rw [if_neg cc4]
  by_cases cc5 : i1 = 5
  · refine (if_pos cc5).trans ?_
    exact Eq.trans (bto (e_stepsJ J) rfl) (congrArg some (if_pos cc5).symm)
  refine (if_neg cc5).trans ?_
  rw [if_neg cc5]
  by_cases cc6 : i1 = 6
  · refine (if_pos cc6).trans ?_
    exact Eq.trans (bto (e_skipped a7 (by omega) (by omega) a3 a4 (Nat.le_refl _) (Nat.le_refl _)) rfl) (congrArg some (if_pos cc6).symm)
  refine (if_neg cc6).trans ?_
  rw [if_neg cc6]
  by_cases cc7 : i1 = 7
  · refine (if_pos cc7).trans ?_
    exact Eq.trans (bto (e_count_r (by decide) (by decide)) rfl) (congrArg some (if_pos cc7).symm)
  refine (if_neg cc7).trans ?_
  rw [if_neg cc7]
  by_cases cc8 : i1 = 8
  · refine (if_pos cc8).trans ?_
    exact Eq.trans (bto (e_count_r (by decide) (by decide)) rfl) (congrArg some (if_pos cc8).symm)
  refine (if_neg cc8).trans ?_
  rw [if_neg cc8]
  by_cases cc9 : i1 = 9
  · refine (if_pos cc9).trans ?_
    exact Eq.trans (rfl) (congrArg some (if_pos cc9).symm)
  refine (if_neg cc9).trans ?_
  rw [if_neg cc9]
  by_cases cc10 : i1 = 10
  · refine (if_pos cc10).trans ?_
    exact Eq.trans (rfl) (congrArg some (if_pos cc10).symm)
  refine (if_neg cc10).trans ?_
  rw [if_neg cc10]
  by_cases cc11 : i1 = 11
  · refine (if_pos cc11).trans ?_
    exact Eq.trans (rfl) (congrArg some (if_pos cc11).symm)
  refine (if_neg cc11).trans ?_
  rw [if_neg cc11]
  by_cases cc12 : i1 = 12
  · refine (if_pos cc12).trans ?_
    exact Eq.trans (bto (e_rest J2 Y ht hg) rfl) (congrArg some (if_pos cc12).symm)
  refine (if_neg cc12).trans ?_
  rw [if_neg cc12]
  by_cases cc13 : i1 = 13
  · refine (if_pos cc13).trans ?_
    exact Eq.trans (rfl) (congrArg some (if_pos cc13).symm)
  refine (if_neg cc13).trans ?_
  rw [if_neg cc13]
  by_cases cc14 : i1 = 14
  · refine (if_pos cc14).trans ?_
    exact Eq.trans (rfl) (congrArg some (if_pos cc14).symm)
  refine (if_neg cc14).trans ?_
  rw [if_neg cc14]
  by_cases h : Rn = 0
  · rw [h]
    rfl
  · have e : yMv r k c g s G H B K be wo Rn Rk (1, nI (yFrom r2 c2 s2 lr lc (yJst r2 k2 c2 g2 G2 H2) ti - go), nI ti) 15 = nI Rk := if_neg h
    rw [e]
    refine (if_neg (fun z => h (by rw [li0, nj_eq (by omega) (by decide)] at z; exact z))).trans ?_
    exact if_pos (fun z => by
      rw [cl0] at z
      rcases z with z | z
      · exact absurd z (by decide)
      · omega)
theorem e_mesh_r {r k c g s Rn Rk : Nat} {G H B K : Nat → Nat → Int32} {be wo i1 : Int32} {r2 k2 c2 g2 s2 lr lc ti go : Nat} {G2 H2 : Nat → Nat → Int32} (J : yJob r k c g s) (hR : Rn ≤ 9) (J2 : yJob r2 k2 c2 g2 s2) (Y : yLay lr lc) (ht : ti < yNt r2 c2 s2 lr lc) (hg : go < yTb r2 c2 s2 lr lc (yJst r2 k2 c2 g2 G2 H2) ti) : fX9_mesh_r be wo (nI lr) (nI lc) (nI ti) (nI go) (nI r) (nI k) (nI c) (nI g) (nI s) r k G k c H B K Rn Rk (nI r2) (nI k2) (nI c2) (nI g2) (nI s2) r2 k2 G2 k2 c2 H2 i1 = some (if yIn i1 0 15 = true then (yMT (yMv r k c g s G H B K be wo Rn Rk (1, nI (yFrom r2 c2 s2 lr lc (yJst r2 k2 c2 g2 G2 H2) ti - go), nI ti)) i1, 0) else (0, 1)) := by
  unfold fX9_mesh_r
  refine bto e_isIn ?_
  rw [yb_not]
  refine bto rfl ?_
  refine bto (e_start_r (by decide)) ?_
  have e0 : Int32.toInt 0 = 0 := by decide
  have e4 : Int32.toInt 15 = 15 := by decide
  rw [e0, e4]
  cases yIn i1 0 15
  · rfl
  · refine (if_pos rfl).trans ?_
    refine bto (e_meshTold_r J hR J2 Y ht hg) ?_
    rfl
theorem e_placeIn : ∀ m, m < 32 → ∀ i, i < 8 → fX9_placeIn (nI m) (nI i) = some (if yBit m i = true then nI (yPop (m % 2 ^ i)) else -1) := by decide +kernel
theorem yPop_low : ∀ m, m < 32 → ∀ i, i < 8 → yPop (m % 2 ^ i) ≤ 5 := by decide +kernel
def yDoes (r c s lr lc ti i j : Nat) : Bool := yBit lr i && (yBit lc j && (decide (yPop (lr % 2 ^ i) < yTr r c s lr lc ti) && decide (yPop (lc % 2 ^ j) < yTc c s lc ti)))
theorem e_does {r k c g s lr lc ti i j : Nat} (J : yJob r k c g s) (Y : yLay lr lc) (h : ti < yNt r c s lr lc) (hi : i < 5) (hj : j < 5) : fX9_does_r (nI lr) (nI lc) (nI ti) (nI r) (nI c) (nI s) (nI i) (nI j) = some (yb (yDoes r c s lr lc ti i j)) := by
  have u := yTr_of J Y h
  have v := yTc_of ti J Y
  have gg := yGeo J Y
  have w1 := yPop_low lr Y.1.2 i (by omega)
  have w2 := yPop_low lc Y.2.2 j (by omega)
  unfold fX9_does_r yDoes
  refine bto (e_has lr Y.1.2 i (by omega)) ?_
  cases e1 : yBit lr i
  · rfl
  refine (if_neg (by decide)).trans ?_
  refine bto (e_has lc Y.2.2 j (by omega)) ?_
  cases e2 : yBit lc j
  · rfl
  refine (if_neg (by decide)).trans ?_
  refine bto (e_placeIn lr Y.1.2 i (by omega)) ?_
  rw [e1, if_pos rfl]
  refine bto (e_tileRows J Y h) ?_
  by_cases h1 : yPop (lr % 2 ^ i) < yTr r c s lr lc ti
  · refine (if_neg (fun z => by rw [nj_le (by omega) (by omega)] at z; omega)).trans ?_
    rw [decide_eq_true h1]
    refine bto (e_placeIn lc Y.2.2 j (by omega)) ?_
    rw [e2, if_pos rfl]
    refine bto (e_tileColumns J Y (by omega)) ?_
    by_cases h2 : yPop (lc % 2 ^ j) < yTc c s lc ti
    · refine (if_neg (fun z => by rw [nj_le (by omega) (by omega)] at z; omega)).trans ?_
      rw [decide_eq_true h2]
      rfl
    · refine (if_pos (by rw [nj_le (by omega) (by omega)]; omega)).trans ?_
      rw [decide_eq_false h2]
      rfl
  · refine (if_pos (by rw [nj_le (by omega) (by omega)]; omega)).trans ?_
    rw [decide_eq_false h1]
    rfl
def yCT (B K U : Nat → Nat → Int32) (v2 v3 : Int32) (i j : Nat) (i3 : Int32) : Int32 := if i3 = 0 then (if K i j = 0 then yb (!decide (B i j = 0)) else 2) else if i3 = 1 then U i j else if i3 = 2 then v2 else v3
def yC3 (r k c g s lr lc : Nat) (G H : Nat → Nat → Int32) (ti go i j : Nat) : Int32 := if yDoes r c s lr lc ti i j = true then (if go = 0 then -1 else if yPop (lr % 2 ^ i) + yPop (lc % 2 ^ j) ≤ go - 1 ∧ go - 1 - yPop (lr % 2 ^ i) - yPop (lc % 2 ^ j) < yJst r k c g G H then nI (go - 1 - yPop (lr % 2 ^ i) - yPop (lc % 2 ^ j)) else -1) else -1
theorem e_cellTold_i {B K U : Nat → Nat → Int32} {i j : Nat} {i3 : Int32} (hi : i < 5) (hj : j < 5) : fX9_cellTold_i B K U (nI i) (nI j) i3 = some (yCT B K U 0 (-1) i j i3) := by
  unfold fX9_cellTold_i yCT
  have gi := nj_in hi (by omega)
  have gj := nj_in hj (by omega)
  have ci := nj_cl (a := i) (by omega)
  have cj := nj_cl (a := j) (by omega)
  by_cases c0 : i3 = 0
  · rw [if_pos c0, if_pos c0]
    refine (if_pos gi).trans ?_
    refine (if_pos gj).trans ?_
    rw [ci, cj]
    by_cases h : K i j = 0
    · rw [if_pos h, if_pos h]
      refine (if_pos (nj_in2 hi (by omega))).trans ?_
      refine (if_pos (nj_in2 hj (by omega))).trans ?_
      exact bto (e_oneB _) rfl
    · rw [if_neg h, if_neg h]
  rw [if_neg c0, if_neg c0]
  by_cases c1 : i3 = 1
  · rw [if_pos c1, if_pos c1]
    refine (if_pos gi).trans ?_
    refine (if_pos gj).trans ?_
    rw [ci, cj]
  rw [if_neg c1, if_neg c1]
  by_cases c2 : i3 = 2
  · rw [if_pos c2, if_pos c2]
    rfl
  · rw [if_neg c2, if_neg c2]
    rfl
theorem e_ofCell_i {B K U : Nat → Nat → Int32} {i1 i2 i3 : Int32} : Ok (fX9_ofCell_i B K U i1 i2 i3) (fun o => (¬ (yIn i1 0 4 = true ∧ yIn i2 0 4 = true) ∧ o = (0, 1)) ∨ ((yIn i1 0 4 = true ∧ yIn i2 0 4 = true) ∧ ¬ yIn i3 0 3 = true ∧ o = (0, 2)) ∨ ((yIn i1 0 4 = true ∧ yIn i2 0 4 = true) ∧ yIn i3 0 3 = true ∧ ∃ i j, i < 5 ∧ j < 5 ∧ i1 = nI i ∧ i2 = nI j ∧ o = (yCT B K U 0 (-1) i j i3, 0))) := by
  have e0 : Int32.toInt 0 = 0 := by decide
  have e3 : Int32.toInt 3 = 3 := by decide
  unfold fX9_ofCell_i
  refine Ok.bind o_X9_isNoCell (fun x hx => ?_)
  refine Ok.to (e_start_i (by decide)) ?_
  have f := yi_bs hx
  by_cases c1 : x = 0
  · rw [if_pos c1]
    have hv := f.1 c1
    have b1 : yIn i1 0 4 = true := decide_eq_true ⟨hv.1.1, hv.1.2⟩
    have b2 : yIn i2 0 4 = true := decide_eq_true ⟨hv.2.1, hv.2.2⟩
    refine Ok.ite (fun _ => ?_) (fun z => absurd rfl z)
    refine Ok.to e_isIn ?_
    rw [yb_not]
    refine Ok.to rfl ?_
    dsimp only
    refine Ok.to (e_refuse_i (by decide)) ?_
    rw [e0, e3]
    cases e : yIn i3 0 3
    · refine Ok.ite (fun z => absurd z (by decide)) (fun _ => Ok.some (Or.inr (Or.inl ⟨⟨b1, b2⟩, by decide, rfl⟩)))
    · refine Ok.ite (fun _ => ?_) (fun z => absurd rfl z)
      have u1 := nj_to (x := i1) (by omega)
      have u2 := nj_to (x := i2) (by omega)
      have w1 : i1.toInt.toNat < 5 := by omega
      have w2 : i2.toInt.toNat < 5 := by omega
      refine Ok.to (r := yCT B K U 0 (-1) i1.toInt.toNat i2.toInt.toNat i3) ?_ (Ok.some (Or.inr (Or.inr ⟨⟨b1, b2⟩, rfl, i1.toInt.toNat, i2.toInt.toNat, w1, w2, u1, u2, rfl⟩)))
      have q := e_cellTold_i (B := B) (K := K) (U := U) (i3 := i3) w1 w2
      rw [← u1, ← u2] at q
      exact q
  · rw [if_neg c1]
    have hv := f.2 c1
    refine Ok.ite (fun z => absurd z (by decide)) (fun _ => Ok.some (Or.inl ⟨fun z => hv ?_, rfl⟩))
    have z1 := of_decide_eq_true z.1
    have z2 := of_decide_eq_true z.2
    exact ⟨⟨z1.1, z1.2⟩, z2.1, z2.2⟩
theorem e_cellTold_r {B K U : Nat → Nat → Int32} {i j : Nat} {i3 : Int32} {r k c g s lr lc ti go : Nat} {G H S : Nat → Nat → Int32} (J : yJob r k c g s) (Y : yLay lr lc) (h : ti < yNt r c s lr lc) (hg : go < 1000) (hi : i < 5) (hj : j < 5) : fX9_cellTold_r (nI lr) (nI lc) (nI ti) (nI go) B K U S (nI r) (nI k) (nI c) (nI g) (nI s) r k G k c H (nI i) (nI j) i3 = some (yCT B K U (if yDoes r c s lr lc ti i j = true then S i j else 0) (yC3 r k c g s lr lc G H ti go i j) i j i3) := by
  unfold fX9_cellTold_r yCT
  have gi := nj_in hi (by omega)
  have gj := nj_in hj (by omega)
  have ci := nj_cl (a := i) (by omega)
  have cj := nj_cl (a := j) (by omega)
  by_cases c0 : i3 = 0
  · rw [if_pos c0, if_pos c0]
    refine (if_pos gi).trans ?_
    refine (if_pos gj).trans ?_
    rw [ci, cj]
    by_cases h : K i j = 0
    · rw [if_pos h, if_pos h]
      refine (if_pos (nj_in2 hi (by omega))).trans ?_
      refine (if_pos (nj_in2 hj (by omega))).trans ?_
      exact bto (e_oneB _) rfl
    · rw [if_neg h, if_neg h]
  rw [if_neg c0, if_neg c0]
  by_cases c1 : i3 = 1
  · rw [if_pos c1, if_pos c1]
    refine (if_pos gi).trans ?_
    refine (if_pos gj).trans ?_
    rw [ci, cj]
  rw [if_neg c1, if_neg c1]
  by_cases c2 : i3 = 2
  · rw [if_pos c2, if_pos c2]
    refine bto (e_does J Y h hi hj) ?_
    cases yDoes r c s lr lc ti i j
    · rfl
    · refine (if_neg (by decide)).trans ?_
      refine (if_pos gi).trans ?_
      refine (if_pos gj).trans ?_
      rw [ci, cj]
      rfl
  · rw [if_neg c2, if_neg c2]
    unfold yC3
    refine bto (e_does J Y h hi hj) ?_
    cases e : yDoes r c s lr lc ti i j
    · rfl
    · refine (if_neg (by decide)).trans ?_
      rw [if_pos rfl]
      have w1 := yPop_low lr Y.1.2 i (by omega)
      have w2 := yPop_low lc Y.2.2 j (by omega)
      have e1 : yBit lr i = true := by
        unfold yDoes at e
        rw [Bool.and_eq_true] at e
        exact e.1
      have e2 : yBit lc j = true := by
        unfold yDoes at e
        rw [Bool.and_eq_true, Bool.and_eq_true] at e
        exact e.2.1
      by_cases h0 : go = 0
      · rw [if_pos h0, h0]
        exact if_pos rfl
      · rw [if_neg h0]
        refine (if_neg (fun z => h0 (by rw [li0, nj_eq (by omega) (by decide)] at z; exact z))).trans ?_
        refine bto (e_placeIn lr Y.1.2 i (by omega)) ?_
        refine bto (e_placeIn lc Y.2.2 j (by omega)) ?_
        rw [e1, e2, if_pos rfl, if_pos rfl, li1, nj_sub (by omega)]
        obtain ⟨⟨a1, a2⟩, ⟨a3, a4⟩, ⟨a5, a6⟩, a7, a8⟩ := id J
        refine bto (e_stepTaken a7 (by omega) (by omega) a3 a4 (by omega) (by omega) (by omega)) ?_
        rfl
theorem e_ofCell_r {B K U : Nat → Nat → Int32} {i1 i2 i3 : Int32} {r k c g s lr lc ti go : Nat} {G H S : Nat → Nat → Int32} (J : yJob r k c g s) (Y : yLay lr lc) (h : ti < yNt r c s lr lc) (hg : go < 1000) : Ok (fX9_ofCell_r (nI lr) (nI lc) (nI ti) (nI go) B K U S (nI r) (nI k) (nI c) (nI g) (nI s) r k G k c H i1 i2 i3) (fun o => (¬ (yIn i1 0 4 = true ∧ yIn i2 0 4 = true) ∧ o = (0, 1)) ∨ ((yIn i1 0 4 = true ∧ yIn i2 0 4 = true) ∧ ¬ yIn i3 0 3 = true ∧ o = (0, 2)) ∨ ((yIn i1 0 4 = true ∧ yIn i2 0 4 = true) ∧ yIn i3 0 3 = true ∧ ∃ i j, i < 5 ∧ j < 5 ∧ i1 = nI i ∧ i2 = nI j ∧ o = (yCT B K U (if yDoes r c s lr lc ti i j = true then S i j else 0) (yC3 r k c g s lr lc G H ti go i j) i j i3, 0))) := by
  have e0 : Int32.toInt 0 = 0 := by decide
  have e3 : Int32.toInt 3 = 3 := by decide
  unfold fX9_ofCell_r
  refine Ok.bind o_X9_isNoCell (fun x hx => ?_)
  refine Ok.to (e_start_r (by decide)) ?_
  have f := yi_bs hx
  by_cases c1 : x = 0
  · rw [if_pos c1]
    have hv := f.1 c1
    have b1 : yIn i1 0 4 = true := decide_eq_true ⟨hv.1.1, hv.1.2⟩
    have b2 : yIn i2 0 4 = true := decide_eq_true ⟨hv.2.1, hv.2.2⟩
    refine Ok.ite (fun _ => ?_) (fun z => absurd rfl z)
    refine Ok.to e_isIn ?_
    rw [yb_not]
    refine Ok.to rfl ?_
    dsimp only
    refine Ok.to (e_refuse_r (by decide)) ?_
    rw [e0, e3]
    cases e : yIn i3 0 3
    · refine Ok.ite (fun z => absurd z (by decide)) (fun _ => Ok.some (Or.inr (Or.inl ⟨⟨b1, b2⟩, by decide, rfl⟩)))
    · refine Ok.ite (fun _ => ?_) (fun z => absurd rfl z)
      have u1 := nj_to (x := i1) (by omega)
      have u2 := nj_to (x := i2) (by omega)
      have w1 : i1.toInt.toNat < 5 := by omega
      have w2 : i2.toInt.toNat < 5 := by omega
      refine Ok.to (r := yCT B K U (if yDoes r c s lr lc ti i1.toInt.toNat i2.toInt.toNat = true then S i1.toInt.toNat i2.toInt.toNat else 0) (yC3 r k c g s lr lc G H ti go i1.toInt.toNat i2.toInt.toNat) i1.toInt.toNat i2.toInt.toNat i3) ?_ (Ok.some (Or.inr (Or.inr ⟨⟨b1, b2⟩, rfl, i1.toInt.toNat, i2.toInt.toNat, w1, w2, u1, u2, rfl⟩)))
      have q := e_cellTold_r (B := B) (K := K) (U := U) (i3 := i3) (G := G) (H := H) (S := S) J Y h hg w1 w2
      rw [← u1, ← u2] at q
      exact q
  · rw [if_neg c1]
    have hv := f.2 c1
    refine Ok.ite (fun z => absurd z (by decide)) (fun _ => Ok.some (Or.inl ⟨fun z => hv ?_, rfl⟩))
    have z1 := of_decide_eq_true z.1
    have z2 := of_decide_eq_true z.2
    exact ⟨⟨z1.1, z1.2⟩, z2.1, z2.2⟩
theorem o_X9_check_i {gch : Int32} {gRn gRk : Nat} {gRG : Nat → Nat → Int32} (h1 : gRn ≤ 9) (h2 : gRk ≤ 9) : Ok (fX9_check_i gch gRn gRk gRG) (fun _ => True) := by
  unfold fX9_check_i
  refine Ok.bind (P := fun b => b = 0 → 1 ≤ gRn) ?_ (fun r_3 h3 => ?_)
  · refine Ok.ite (fun _ => Ok.some (fun z => absurd z (by decide))) (fun c => ?_)
    have q : 1 ≤ gRn := Nat.pos_of_ne_zero (fun z => c (by rw [z]; rfl))
    exact Ok.ite (fun _ => Ok.some (fun _ => q)) (fun _ => Ok.some (fun _ => q))
  refine Ok.bind (o_X9_start_i (by decide)) (fun x_4 h4 => ?_)
  have f4 := yi_st h4
  refine Ok.ite (fun c1 => ?_) (fun _ => Ok.some trivial)
  have hn := h3 (f4.1 c1).1
  refine Ok.bind (o_X9_severalOr_i h1 h2 hn) (fun x_9 h9 => ?_)
  refine Ok.bind (o_X9_severalOr_i h1 h2 hn) (fun x_13 h13 => ?_)
  have k9 := h9.2.2 (by decide)
  have k13 := h13.2.1 rfl
  refine Ok.ite (fun c2 => ?_) (fun c2 => ?_)
  · refine Ok.ite (fun _ => Ok.some trivial) (fun _ => ?_)
    exact Ok.ite (fun _ => Ok.some trivial) (fun c => absurd (by rw [c2]; decide) c)
  · refine Ok.ite (fun _ => Ok.some trivial) (fun c3 => ?_)
    refine Ok.ite (fun c4 => ?_) (fun _ => Ok.some trivial)
    have l0 : Int32.toInt 0 = 0 := by decide
    have d3 : 0 ≤ x_9.toInt := by
      rw [yi_lt, l0] at c3
      omega
    have d4 : 0 ≤ x_13.toInt := by
      rw [yi_le, l0] at c4
      exact c4
    refine Ok.grd (yi_in (show (0 : Int) ≤ Int32.toInt 0 by decide) (by omega)) ?_
    refine Ok.bind (P := fun _ => True) ?_ (fun r_30 _ => ?_)
    · refine Ok.ite (fun _ => ?_) (fun _ => ?_)
      · exact Ok.bind (o_X9_off_i h1 h2 hn d3 (fun z => absurd z (by decide)) (fun _ => k9)) (fun _ _ => Ok.some trivial)
      · exact Ok.bind (o_X9_off_i h1 h2 hn d3 (fun z => absurd z (by decide)) (fun _ => k9)) (fun _ _ => Ok.some trivial)
    refine Ok.bind (P := fun _ => True) ?_ (fun r_40 _ => ?_)
    · refine Ok.ite (fun _ => ?_) (fun _ => ?_)
      · exact Ok.bind (o_X9_off_i h1 h2 hn d4 (fun _ => k13) (fun z => absurd rfl z)) (fun _ _ => Ok.some trivial)
      · exact Ok.bind (o_X9_off_i h1 h2 hn d4 (fun _ => k13) (fun z => absurd rfl z)) (fun _ _ => Ok.some trivial)
    refine Ok.ite (fun _ => ?_) (fun _ => Ok.some trivial)
    refine Ok.grd (yi_in d3 k9) ?_
    refine Ok.grd (yi_in d4 k13) ?_
    refine Ok.grd (yi_in d4 k13) ?_
    exact Ok.some trivial
theorem o_X9_check_r {gch : Int32} {gRn gRk : Nat} {gRG : Nat → Nat → Int32} (h1 : gRn ≤ 9) (h2 : gRk ≤ 9) : Ok (fX9_check_r gch gRn gRk gRG) (fun _ => True) := by
  unfold fX9_check_r
  refine Ok.bind (P := fun b => b = 0 → 1 ≤ gRn) ?_ (fun r_3 h3 => ?_)
  · refine Ok.ite (fun _ => Ok.some (fun z => absurd z (by decide))) (fun c => ?_)
    have q : 1 ≤ gRn := Nat.pos_of_ne_zero (fun z => c (by rw [z]; rfl))
    exact Ok.ite (fun _ => Ok.some (fun _ => q)) (fun _ => Ok.some (fun _ => q))
  refine Ok.bind (o_X9_start_r (by decide)) (fun x_4 h4 => ?_)
  have f4 := yi_st h4
  refine Ok.ite (fun c1 => ?_) (fun _ => Ok.some trivial)
  have hn := h3 (f4.1 c1).1
  refine Ok.bind (o_X9_severalOr_r h1 h2 hn) (fun x_9 h9 => ?_)
  refine Ok.bind (o_X9_severalOr_r h1 h2 hn) (fun x_13 h13 => ?_)
  have k9 := h9.2.2 (by decide)
  have k13 := h13.2.1 rfl
  refine Ok.ite (fun c2 => ?_) (fun c2 => ?_)
  · refine Ok.ite (fun _ => Ok.some trivial) (fun _ => ?_)
    exact Ok.ite (fun _ => Ok.some trivial) (fun c => absurd (by rw [c2]; decide) c)
  · refine Ok.ite (fun _ => Ok.some trivial) (fun c3 => ?_)
    refine Ok.ite (fun c4 => ?_) (fun _ => Ok.some trivial)
    have l0 : Int32.toInt 0 = 0 := by decide
    have d3 : 0 ≤ x_9.toInt := by
      rw [yi_lt, l0] at c3
      omega
    have d4 : 0 ≤ x_13.toInt := by
      rw [yi_le, l0] at c4
      exact c4
    refine Ok.grd (yi_in (show (0 : Int) ≤ Int32.toInt 0 by decide) (by omega)) ?_
    refine Ok.bind (P := fun _ => True) ?_ (fun r_30 _ => ?_)
    · refine Ok.ite (fun _ => ?_) (fun _ => ?_)
      · exact Ok.bind (o_X9_off_r h1 h2 hn d3 (fun z => absurd z (by decide)) (fun _ => k9)) (fun _ _ => Ok.some trivial)
      · exact Ok.bind (o_X9_off_r h1 h2 hn d3 (fun z => absurd z (by decide)) (fun _ => k9)) (fun _ _ => Ok.some trivial)
    refine Ok.bind (P := fun _ => True) ?_ (fun r_40 _ => ?_)
    · refine Ok.ite (fun _ => ?_) (fun _ => ?_)
      · exact Ok.bind (o_X9_off_r h1 h2 hn d4 (fun _ => k13) (fun z => absurd rfl z)) (fun _ _ => Ok.some trivial)
      · exact Ok.bind (o_X9_off_r h1 h2 hn d4 (fun _ => k13) (fun z => absurd rfl z)) (fun _ _ => Ok.some trivial)
    refine Ok.ite (fun _ => ?_) (fun _ => Ok.some trivial)
    refine Ok.grd (yi_in d3 k9) ?_
    refine Ok.grd (yi_in d4 k13) ?_
    refine Ok.grd (yi_in d4 k13) ?_
    exact Ok.some trivial
def yUr (U : Nat → Nat → Int32) (i n : Nat) (x : Int64) : Int64 := yFold n (fun j x => x + (U i j).toInt64) x
def yUs2 (U : Nat → Nat → Int32) (n : Nat) : Int64 := yFold n (fun i x => yUr U i 5 x) 0
def yKB (B K : Nat → Nat → Int32) (i j : Nat) : Bool := !decide (K i j = 0) && decide (B i j = 0)
theorem e_sum {U B K : Nat → Nat → Int32} : (wl (S := Int64 × Int32) (B := (Int64 × Int32) ⊕ Int32) (fun s_8 => (if 5 ≤ s_8.2 then some (.inr (.inl (s_8.1, s_8.2))) else ((wl (S := Int64 × Int32) (B := (Int64 × Int32) ⊕ Int32) (fun s_17 => (if 5 ≤ s_17.2 then some (.inr (.inl (s_17.1, s_17.2))) else (if ¬ (s_8.2 < 0 ∨ 5 ≤ s_8.2.toNatClampNeg) then (if ¬ (s_17.2 < 0 ∨ 5 ≤ s_17.2.toNatClampNeg) then (ylet (s_17.1 + ((U s_8.2.toNatClampNeg s_17.2.toNatClampNeg).toInt64) : Int64) fun y_22 => (if ¬ (s_8.2 < 0 ∨ 5 ≤ s_8.2.toNatClampNeg) then (if ¬ (s_17.2 < 0 ∨ 5 ≤ s_17.2.toNatClampNeg) then (if (K s_8.2.toNatClampNeg s_17.2.toNatClampNeg) = 0 then some (.inl (y_22, s_17.2 + 1)) else (if ¬ (s_8.2 < 0 ∨ 5 ≤ s_8.2.toNatClampNeg) then (if ¬ (s_17.2 < 0 ∨ 5 ≤ s_17.2.toNatClampNeg) then (if (B s_8.2.toNatClampNeg s_17.2.toNatClampNeg) = 0 then some (.inr (.inr 0)) else some (.inl (y_22, s_17.2 + 1))) else none) else none)) else none) else none)) else none) else none))) yFuel (s_8.1, 0)).bind fun b_17 => ybr b_17 (fun z_17 => some (.inl (z_17.1, s_8.2 + 1))) (fun r => some (.inr (.inr r)))))) yFuel (0, 0)) = some (if yAny 5 (fun i => yAny 5 (yKB B K i)) = true then .inr 0 else .inl (yUs2 U 5, nI 5)) := by
  refine wl_any (fun i => (yUs2 U i, nI i)) 5 (fun i => yAny 5 (yKB B K i)) rfl (by decide) (fun i hi hp => ?_) (fun i hi hp => ?_) ?_
  all_goals try dsimp only
  · have g1 : ¬ (5 : Int32) ≤ nI i := fun z => by rw [li5, nj_le (by decide) (by omega)] at z; omega
    refine (if_neg g1).trans ?_
    refine bto (wl_any (b1 := .inr 0) (b2 := .inl (yUr U i 5 (yUs2 U i), nI 5)) (fun j => (yUr U i j (yUs2 U i), nI j)) 5 (yKB B K i) rfl (by decide) (fun j hj hq => ?_) (fun j hj hq => ?_) ?_) ?_
    · dsimp only
      have g2 : ¬ (5 : Int32) ≤ nI j := fun z => by rw [li5, nj_le (by decide) (by omega)] at z; omega
      refine (if_neg g2).trans ?_
      refine (if_pos (nj_in hi (by omega))).trans ?_
      refine (if_pos (nj_in hj (by omega))).trans ?_
      unfold ylet
      refine (if_pos (nj_in hi (by omega))).trans ?_
      refine (if_pos (nj_in hj (by omega))).trans ?_
      rw [nj_cl (by omega), nj_cl (by omega)]
      unfold yKB at hq
      by_cases h : K i j = 0
      · rw [if_pos h, nj_p1]
        rfl
      · rw [if_neg h]
        refine (if_pos (nj_in2 hi (by omega))).trans ?_
        refine (if_pos (nj_in2 hj (by omega))).trans ?_
        rw [if_neg (by simpa [h] using hq), nj_p1]
        rfl
    · dsimp only
      have g2 : ¬ (5 : Int32) ≤ nI j := fun z => by rw [li5, nj_le (by decide) (by omega)] at z; omega
      refine (if_neg g2).trans ?_
      refine (if_pos (nj_in hi (by omega))).trans ?_
      refine (if_pos (nj_in hj (by omega))).trans ?_
      unfold ylet
      refine (if_pos (nj_in hi (by omega))).trans ?_
      refine (if_pos (nj_in hj (by omega))).trans ?_
      rw [nj_cl (by omega), nj_cl (by omega)]
      unfold yKB at hq
      rw [Bool.and_eq_true] at hq
      have h : ¬ K i j = 0 := by simpa using hq.1
      rw [if_neg h]
      refine (if_pos (nj_in2 hi (by omega))).trans ?_
      refine (if_pos (nj_in2 hj (by omega))).trans ?_
      exact if_pos (of_decide_eq_true hq.2)
    · exact if_pos (show (5 : Int32) ≤ nI 5 by decide)
    · rw [hp]
      refine (show _ = some (Sum.inl (yUr U i 5 (yUs2 U i), nI i + 1)) from rfl).trans ?_
      rw [nj_p1]
      rfl
  · have g1 : ¬ (5 : Int32) ≤ nI i := fun z => by rw [li5, nj_le (by decide) (by omega)] at z; omega
    refine (if_neg g1).trans ?_
    refine bto (wl_any (b1 := .inr 0) (b2 := .inl (yUr U i 5 (yUs2 U i), nI 5)) (fun j => (yUr U i j (yUs2 U i), nI j)) 5 (yKB B K i) rfl (by decide) (fun j hj hq => ?_) (fun j hj hq => ?_) ?_) ?_
    · dsimp only
      have g2 : ¬ (5 : Int32) ≤ nI j := fun z => by rw [li5, nj_le (by decide) (by omega)] at z; omega
      refine (if_neg g2).trans ?_
      refine (if_pos (nj_in hi (by omega))).trans ?_
      refine (if_pos (nj_in hj (by omega))).trans ?_
      unfold ylet
      refine (if_pos (nj_in hi (by omega))).trans ?_
      refine (if_pos (nj_in hj (by omega))).trans ?_
      rw [nj_cl (by omega), nj_cl (by omega)]
      unfold yKB at hq
      by_cases h : K i j = 0
      · rw [if_pos h, nj_p1]
        rfl
      · rw [if_neg h]
        refine (if_pos (nj_in2 hi (by omega))).trans ?_
        refine (if_pos (nj_in2 hj (by omega))).trans ?_
        rw [if_neg (by simpa [h] using hq), nj_p1]
        rfl
    · dsimp only
      have g2 : ¬ (5 : Int32) ≤ nI j := fun z => by rw [li5, nj_le (by decide) (by omega)] at z; omega
      refine (if_neg g2).trans ?_
      refine (if_pos (nj_in hi (by omega))).trans ?_
      refine (if_pos (nj_in hj (by omega))).trans ?_
      unfold ylet
      refine (if_pos (nj_in hi (by omega))).trans ?_
      refine (if_pos (nj_in hj (by omega))).trans ?_
      rw [nj_cl (by omega), nj_cl (by omega)]
      unfold yKB at hq
      rw [Bool.and_eq_true] at hq
      have h : ¬ K i j = 0 := by simpa using hq.1
      rw [if_neg h]
      refine (if_pos (nj_in2 hi (by omega))).trans ?_
      refine (if_pos (nj_in2 hj (by omega))).trans ?_
      exact if_pos (of_decide_eq_true hq.2)
    · exact if_pos (show (5 : Int32) ≤ nI 5 by decide)
    · rw [hp]
      rfl
  · exact if_pos (show (5 : Int32) ≤ nI 5 by decide)
