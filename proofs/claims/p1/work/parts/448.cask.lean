/-! ===== what is asked of the class ===== -/
theorem c_meshNumber {r k c g s Rn Rk : Nat} {f h : Nat → Int32} {G H B K : Nat → Nat → Int32} {wb wk obl oti be wo i1 : Int32} (ro : Bool) (J : yJob r k c g s) (hf : yTq r k f G) (hh : yTq k c h H) (hB : yFlag wb B) (hK : yFlag wk K) (hr : fX5_runs obl = some (yb ro)) (hz : Rn = 0 → Rk = 0) : fX6_meshNumber (nI r) (nI k) (nI c) (nI g) (nI s) f h wb wk (nI Rn) (nI Rk) oti obl be wo i1 = some (yMT (yMv r k c g s G H B K be wo Rn Rk (yb ro, obl, if ro = true then oti else -1)) i1) := by
  obtain ⟨⟨a1, a2⟩, ⟨a3, a4⟩, ⟨a5, a6⟩, a7, a8⟩ := id J
  have e4 : (if nI s = 0 then some (0 : Int32) else some 1) = some (nI s) := by
    rcases (show s = 0 ∨ s = 1 by omega) with rfl | rfl <;> rfl
  have e11 : ((fX5_runs obl).bind fun x_30 => (if x_30 = 0 then some 0 else some 1)) = some (yb ro) := by
    refine bto hr ?_
    cases ro <;> rfl
  have e13 : ((fX5_runs obl).bind fun x_37 => (if x_37 = 0 then some (-1) else some oti)) = some (if ro = true then oti else -1) := by
    refine bto hr ?_
    cases ro <;> rfl
  unfold fX6_meshNumber yMT
  by_cases c0 : i1 = 0
  · refine (if_pos c0).trans ?_
    exact Eq.trans (rfl) (congrArg some (if_pos c0).symm)
  refine (if_neg c0).trans ?_
  rw [if_neg c0]
  by_cases c1 : i1 = 1
  · refine (if_pos c1).trans ?_
    exact Eq.trans (rfl) (congrArg some (if_pos c1).symm)
  refine (if_neg c1).trans ?_
  rw [if_neg c1]
  by_cases c2 : i1 = 2
  · refine (if_pos c2).trans ?_
    exact Eq.trans (rfl) (congrArg some (if_pos c2).symm)
  refine (if_neg c2).trans ?_
  rw [if_neg c2]
  by_cases c3 : i1 = 3
  · refine (if_pos c3).trans ?_
    exact Eq.trans (rfl) (congrArg some (if_pos c3).symm)
  refine (if_neg c3).trans ?_
  rw [if_neg c3]
  by_cases c4 : i1 = 4
  · refine (if_pos c4).trans ?_
    exact Eq.trans (e4) (congrArg some (if_pos c4).symm)
  refine (if_neg c4).trans ?_
  rw [if_neg c4]
  by_cases c5 : i1 = 5
  · refine (if_pos c5).trans ?_
    exact Eq.trans (bto (c_steps J hf hh) rfl) (congrArg some (if_pos c5).symm)
  refine (if_neg c5).trans ?_
  rw [if_neg c5]
  by_cases c6 : i1 = 6
  · refine (if_pos c6).trans ?_
    exact Eq.trans (bto (c_skipped J hf hh) rfl) (congrArg some (if_pos c6).symm)
  refine (if_neg c6).trans ?_
  rw [if_neg c6]
  by_cases c7 : i1 = 7
  · refine (if_pos c7).trans ?_
    exact Eq.trans (bto (yFlag_count hB) rfl) (congrArg some (if_pos c7).symm)
  refine (if_neg c7).trans ?_
  rw [if_neg c7]
  by_cases c8 : i1 = 8
  · refine (if_pos c8).trans ?_
    exact Eq.trans (bto (yFlag_count hK) rfl) (congrArg some (if_pos c8).symm)
  refine (if_neg c8).trans ?_
  rw [if_neg c8]
  by_cases c9 : i1 = 9
  · refine (if_pos c9).trans ?_
    exact Eq.trans (rfl) (congrArg some (if_pos c9).symm)
  refine (if_neg c9).trans ?_
  rw [if_neg c9]
  by_cases c10 : i1 = 10
  · refine (if_pos c10).trans ?_
    exact Eq.trans (rfl) (congrArg some (if_pos c10).symm)
  refine (if_neg c10).trans ?_
  rw [if_neg c10]
  by_cases c11 : i1 = 11
  · refine (if_pos c11).trans ?_
    exact Eq.trans (e11) (congrArg some (if_pos c11).symm)
  refine (if_neg c11).trans ?_
  rw [if_neg c11]
  by_cases c12 : i1 = 12
  · refine (if_pos c12).trans ?_
    exact Eq.trans (rfl) (congrArg some (if_pos c12).symm)
  refine (if_neg c12).trans ?_
  rw [if_neg c12]
  by_cases c13 : i1 = 13
  · refine (if_pos c13).trans ?_
    exact Eq.trans (e13) (congrArg some (if_pos c13).symm)
  refine (if_neg c13).trans ?_
  rw [if_neg c13]
  by_cases c14 : i1 = 14
  · refine (if_pos c14).trans ?_
    exact Eq.trans rfl (congrArg some (if_pos c14).symm)
  refine (if_neg c14).trans ?_
  rw [if_neg c14]
  by_cases h0 : Rn = 0
  · rw [h0, hz h0]
    rfl
  · have e : yMv r k c g s G H B K be wo Rn Rk (yb ro, obl, if ro = true then oti else -1) 15 = nI Rk := if_neg h0
    rw [e]
theorem c_mesh {r k c g s Rn Rk : Nat} {f h : Nat → Int32} {G H B K : Nat → Nat → Int32} {wb wk obl oti be wo i1 : Int32} (ro : Bool) (J : yJob r k c g s) (hf : yTq r k f G) (hh : yTq k c h H) (hB : yFlag wb B) (hK : yFlag wk K) (hr : fX5_runs obl = some (yb ro)) (hz : Rn = 0 → Rk = 0) : fX6_mesh (nI r) (nI k) (nI c) (nI g) (nI s) f h wb wk (nI Rn) (nI Rk) oti obl be wo i1 = some (if yIn i1 0 15 = true then .inr (yMT (yMv r k c g s G H B K be wo Rn Rk (yb ro, obl, if ro = true then oti else -1)) i1) else .inl 0) := by
  have l15 : Int32.toInt 15 = 15 := by decide
  unfold fX6_mesh
  by_cases c1 : i1 < 0
  · rw [if_pos c1]
    rw [yi_lt, yI0] at c1
    rw [show yIn i1 0 15 = false from decide_eq_false (by omega), if_neg (by decide)]
  rw [if_neg c1]
  rw [yi_lt, yI0] at c1
  by_cases c2 : i1 ≤ 15
  · rw [if_pos c2]
    rw [yi_le, l15] at c2
    rw [show yIn i1 0 15 = true from decide_eq_true (by omega), if_pos rfl]
    exact bto (c_meshNumber ro J hf hh hB hK hr hz) rfl
  · rw [if_neg c2]
    rw [yi_le, l15] at c2
    rw [show yIn i1 0 15 = false from decide_eq_false (by omega), if_neg (by decide)]
theorem c_bit {x : Int32} {B : Nat → Nat → Int32} {i j : Nat} (h : yFlag x B) (hi : i < 5) (hj : j < 5) : (x &&& ((1 : Int32) <<< (nI (i * 5 + j) &&& 31)) = 0) = (B i j = 0) := by
  have e := c_brokenAt h hi hj
  unfold fX0_isBrokenAt at e
  have e2 : ((fX0_bitOf (nI i) (nI j)).bind fun x_1 => (if (x &&& x_1) = 0 then some (0 : Int32) else some 1)) = (if (x &&& ((1 : Int32) <<< (nI (i * 5 + j) &&& 31))) = 0 then some (0 : Int32) else some 1) := bto c_bitOf rfl
  rw [e2] at e
  refine propext ⟨fun w => ?_, fun w => ?_⟩
  · rw [if_pos w] at e
    by_cases b : B i j = 0
    · exact b
    · rw [decide_eq_false b] at e
      exact absurd e (by decide)
  · by_cases q : (x &&& ((1 : Int32) <<< (nI (i * 5 + j) &&& 31))) = 0
    · exact q
    · rw [if_neg q, decide_eq_true w] at e
      exact absurd e (by decide)
def ySub (B K : Nat → Nat → Int32) : Prop := ∀ i j, i < 5 → j < 5 → B i j = 0 → K i j = 0
theorem c_stateOf {wb wk : Int32} {B K : Nat → Nat → Int32} {i j : Nat} (hB : yFlag wb B) (hK : yFlag wk K) (hs : ySub B K) (hi : i < 5) (hj : j < 5) : fX0_stateOf wb wk (nI i) (nI j) = some (if K i j = 0 then yb (!decide (B i j = 0)) else 2) := by
  unfold fX0_stateOf
  refine bto (c_brokenAt hB hi hj) ?_
  by_cases b : B i j = 0
  · rw [decide_eq_true b, if_pos (hs i j hi hj b)]
    rfl
  · rw [decide_eq_false b]
    refine (if_neg (by decide)).trans ?_
    refine bto c_bitOf ?_
    by_cases q : K i j = 0
    · rw [if_pos q]
      exact if_pos ((c_bit hK hi hj).mpr q)
    · rw [if_neg q]
      exact if_neg (fun w => q ((c_bit hK hi hj).mp w))
theorem c_place : ∀ m, m < 32 → ∀ i, i < 5 → fX5_placeOf (nI m) (nI i) = some (nI (yPop (m % 2 ^ i))) := by decide +kernel
theorem c_inTile_i {fr fc oy0 oy1 oy3 oy4 oy5 oy6 i1 i2 : Int32} : fX5_isInTile fr fc 0 oy0 oy1 oy3 oy4 oy5 oy6 i1 i2 = some 0 := rfl
theorem c_inTile {r k c g s lr lc ti i j : Nat} {obl : Int32} (J : yJob r k c g s) (Y : yLay lr lc) (ht : ti < yNt r c s lr lc) (hr : fX5_runs obl = some (yb true)) (hi : i < 5) (hj : j < 5) : fX5_isInTile (nI (ti / yWd c s lc * yPop lr)) (nI (ti % yWd c s lc * yPop lc)) obl (nI (r + s)) (nI (c + s)) (nI lr) (nI lc) (nI (yPop lr)) (nI (yPop lc)) (nI i) (nI j) = some (yb (yDoes r c s lr lc ti i j)) := by
  obtain ⟨g1, g2, g3, g4, g5, g6⟩ := yGeo J Y
  have uu := yTr_of J Y ht
  have vv := yTc_of ti J Y
  obtain ⟨⟨a1, a2⟩, ⟨a3, a4⟩, ⟨a5, a6⟩, a7, a8⟩ := id J
  have eR : fX5_tileRows (nI (ti / yWd c s lc * yPop lr)) (nI (r + s)) (nI (yPop lr)) = some (nI (yTr r c s lr lc ti)) := c_tileRows (by omega) (by omega) (by omega)
  have eC : fX5_tileColumns (nI (ti % yWd c s lc * yPop lc)) (nI (c + s)) (nI (yPop lc)) = some (nI (yTc c s lc ti)) := c_tileColumns (by omega) (by omega) (by omega)
  have w1 := yPop_low lr Y.1.2 i (by omega)
  have w2 := yPop_low lc Y.2.2 j (by omega)
  have eL : fX5_isInLayout obl (nI lr) (nI lc) (nI i) (nI j) = some (yb (yBit lr i && yBit lc j)) := by
    unfold fX5_isInLayout
    refine bto hr ?_
    refine (if_neg (by decide)).trans ?_
    cases e1 : yBit lr i
    · exact if_pos ((yb_has lr Y.1.2 i hi).mpr e1)
    refine (if_neg (fun w => by rw [yb_has lr Y.1.2 i hi, e1] at w; exact absurd w (by decide))).trans ?_
    cases e2 : yBit lc j
    · exact if_pos ((yb_has lc Y.2.2 j hj).mpr e2)
    · exact if_neg (fun w => by rw [yb_has lc Y.2.2 j hj, e2] at w; exact absurd w (by decide))
  unfold fX5_isInTile yDoes
  refine bto eL ?_
  cases e1 : yBit lr i
  · rfl
  cases e2 : yBit lc j
  · rfl
  refine (if_neg (by decide)).trans ?_
  refine bto (c_place lr Y.1.2 i hi) ?_
  refine bto eR ?_
  by_cases h1 : yPop (lr % 2 ^ i) < yTr r c s lr lc ti
  · refine (if_neg (fun z => by rw [nj_le (by omega) (by omega)] at z; omega)).trans ?_
    rw [decide_eq_true h1]
    refine bto (c_place lc Y.2.2 j hj) ?_
    refine bto eC ?_
    by_cases h2 : yPop (lc % 2 ^ j) < yTc c s lc ti
    · refine (if_neg (fun z => by rw [nj_le (by omega) (by omega)] at z; omega)).trans ?_
      rw [decide_eq_true h2]
      rfl
    · refine (if_pos (by rw [nj_le (by omega) (by omega)]; omega)).trans ?_
      rw [decide_eq_false h2]
      rfl
  · refine (if_pos (by rw [nj_le (by omega) (by omega)]; omega)).trans ?_
    rw [decide_eq_false h1]
    rfl
theorem c_lastStep {r k c g s lr lc ti go i j : Nat} {obl : Int32} {G H : Nat → Nat → Int32} (J : yJob r k c g s) (Y : yLay lr lc) (ht : ti < yNt r c s lr lc) (hgo : go < 1000) (hr : fX5_runs obl = some (yb true)) (hi : i < 5) (hj : j < 5) : fX5_lastStepOf (nI (ti / yWd c s lc * yPop lr)) (nI (ti % yWd c s lc * yPop lc)) (nI go) obl (nI (r + s)) (nI (c + s)) (nI (yJst r k c g G H)) (nI lr) (nI lc) (nI (yPop lr)) (nI (yPop lc)) (nI i) (nI j) = some (yC3 r k c g s lr lc G H ti go i j) := by
  have st := yJst_of G H J
  have k6 := J.2.1.2
  have w1 := yPop_low lr Y.1.2 i (by omega)
  have w2 := yPop_low lc Y.2.2 j (by omega)
  unfold fX5_lastStepOf yC3
  refine bto (c_inTile J Y ht hr hi hj) ?_
  cases e : yDoes r c s lr lc ti i j
  · rfl
  refine (if_neg (by decide)).trans ?_
  rw [if_pos rfl]
  refine bto (c_place lr Y.1.2 i hi) ?_
  refine bto (c_place lc Y.2.2 j hj) ?_
  have tg := yi_nI (n := go) (by omega)
  have t1 := yi_nI (n := yPop (lr % 2 ^ i)) (by omega)
  have t2 := yi_nI (n := yPop (lc % 2 ^ j)) (by omega)
  have tq := yi_nI (n := yJst r k c g G H) (by omega)
  have v0 : (nI go - 1).toInt = (go : Int) - 1 := by rw [yi_sub (by rw [tg, yI1]; omega) (by rw [tg, yI1]; omega), tg, yI1]
  have v1 : (nI go - 1 - nI (yPop (lr % 2 ^ i))).toInt = (go : Int) - 1 - yPop (lr % 2 ^ i) := by rw [yi_sub (by omega) (by omega), v0, t1]
  have v2 : (nI go - 1 - nI (yPop (lr % 2 ^ i)) - nI (yPop (lc % 2 ^ j))).toInt = (go : Int) - 1 - yPop (lr % 2 ^ i) - yPop (lc % 2 ^ j) := by rw [yi_sub (by omega) (by omega), v1, t2]
  by_cases h0 : go = 0
  · rw [if_pos h0]
    exact if_pos (by rw [yi_lt, v2, yI0]; omega)
  rw [if_neg h0]
  by_cases h1 : yPop (lr % 2 ^ i) + yPop (lc % 2 ^ j) ≤ go - 1
  · refine (if_neg (by rw [yi_lt, v2, yI0]; omega)).trans ?_
    by_cases h2 : go - 1 - yPop (lr % 2 ^ i) - yPop (lc % 2 ^ j) < yJst r k c g G H
    · rw [if_pos (show _ ∧ _ from ⟨h1, h2⟩)]
      refine (if_neg (by rw [yi_le, v2, tq]; omega)).trans ?_
      rw [li1, nj_sub (by omega), nj_sub (by omega), nj_sub (by omega)]
    · refine (if_pos (by rw [yi_le, v2, tq]; omega)).trans ?_
      rw [if_neg (fun z => h2 z.2)]
  · refine (if_pos (by rw [yi_lt, v2, yI0]; omega)).trans ?_
    rw [if_neg (fun z => h1 z.1)]
theorem c_cell_i {wb wk fr fc bt oy0 oy1 oy2 oy3 oy4 oy5 oy6 i3 : Int32} {u m : Nat → Int32} {B K U : Nat → Nat → Int32} {i j : Nat} (hB : yFlag wb B) (hK : yFlag wk K) (hs : ySub B K) (hu : yT5 u U) (hi : i < 5) (hj : j < 5) : fX6_cellNumber wb wk u m fr fc bt 0 oy0 oy1 oy2 oy3 oy4 oy5 oy6 (nI i) (nI j) i3 = some (yCT B K U 0 (-1) i j i3) := by
  unfold fX6_cellNumber yCT
  by_cases c0 : i3 = 0
  · rw [if_pos c0, if_pos c0]
    exact bto (c_stateOf hB hK hs hi hj) rfl
  rw [if_neg c0, if_neg c0]
  by_cases c1 : i3 = 1
  · rw [if_pos c1, if_pos c1]
    refine bto (e_get (by omega) (by omega)) ?_
    rw [hu i j hi hj]
  rw [if_neg c1, if_neg c1]
  by_cases c2 : i3 = 2
  · rw [if_pos c2, if_pos c2]
    rfl
  · rw [if_neg c2, if_neg c2]
    rfl
theorem c_cell_r {r k c g s lr lc ti go i j : Nat} {wb wk obl i3 : Int32} {u m : Nat → Int32} {G H B K U S : Nat → Nat → Int32} (J : yJob r k c g s) (Y : yLay lr lc) (ht : ti < yNt r c s lr lc) (hgo : go < 1000) (hr : fX5_runs obl = some (yb true)) (hB : yFlag wb B) (hK : yFlag wk K) (hs : ySub B K) (hu : yT5 u U) (hm : yT5 m S) (hi : i < 5) (hj : j < 5) : fX6_cellNumber wb wk u m (nI (ti / yWd c s lc * yPop lr)) (nI (ti % yWd c s lc * yPop lc)) (nI go) obl (nI (r + s)) (nI (c + s)) (nI (yJst r k c g G H)) (nI lr) (nI lc) (nI (yPop lr)) (nI (yPop lc)) (nI i) (nI j) i3 = some (yCT B K U (if yDoes r c s lr lc ti i j = true then S i j else 0) (yC3 r k c g s lr lc G H ti go i j) i j i3) := by
  unfold fX6_cellNumber yCT
  by_cases c0 : i3 = 0
  · rw [if_pos c0, if_pos c0]
    exact bto (c_stateOf hB hK hs hi hj) rfl
  rw [if_neg c0, if_neg c0]
  by_cases c1 : i3 = 1
  · rw [if_pos c1, if_pos c1]
    refine bto (e_get (by omega) (by omega)) ?_
    rw [hu i j hi hj]
  rw [if_neg c1, if_neg c1]
  by_cases c2 : i3 = 2
  · rw [if_pos c2, if_pos c2]
    refine bto (c_inTile J Y ht hr hi hj) ?_
    cases yDoes r c s lr lc ti i j
    · rfl
    · refine (if_neg (by decide)).trans ?_
      refine bto (e_get (by omega) (by omega)) ?_
      rw [hm i j hi hj]
      rfl
  · rw [if_neg c2, if_neg c2]
    exact bto (c_lastStep J Y ht hgo hr hi hj) rfl
