theorem c_meshNumber {r k c g s Rn Rk : Nat} {f h : Nat → Int32} {G H B K : Nat → Nat → Int32} {wb wk obl oti be wo i1 : Int32} (ro : Bool) (J : yJob r k c g s) (hf : yTq r k f G) (hh : yTq k c h H) (hB : yFlag wb B) (hK : yFlag wk K) (hr : fX5_runs obl = some (yb ro)) (hz : Rn = 0 → Rk = 0) : fX6_meshNumber (nI r) (nI k) (nI c) (nI g) (nI s) f h wb wk (nI Rn) (nI Rk) oti obl be wo i1 = some (yMT (yMv r k c g s G H B K be wo Rn Rk (yb ro, obl, if ro = true then oti else -1)) i1) := by
  obtain ⟨⟨a1, a2⟩, ⟨a3, a4⟩, ⟨a5, a6⟩, a7, a8⟩ := id J
  have e4 : (if nI s = 0 then some (0 : Int32) else some 1) = some (nI s) := by
    rcases (show s = 0 ∨ s = 1 by omega) with rfl | rfl <;> rfl
  have e11 : ((fX5_runs obl).bind fun x_30 => (if x_30 = 0 then some 0 else some 1)) = some (yb ro) := by
    refine bto hr ?_
    cases ro <;> rfl
  have e13 : ((fX5_runs obl).bind fun x_37 => (if x_37 = 0 then some (-1) else some oti)) = some (if ro = true then oti else -1) := by
    refine bto hr ?_
    cases ro <;> rfl
  unfold fX6_meshNumber yMT
  by_cases c0 : i1 = 0
  · refine (if_pos c0).trans ?_
    exact Eq.trans (rfl) (congrArg some (if_pos c0).symm)
  refine (if_neg c0).trans ?_
  rw [if_neg c0]
  by_cases c1 : i1 = 1
  · refine (if_pos c1).trans ?_
    exact Eq.trans (rfl) (congrArg some (if_pos c1).symm)
  refine (if_neg c1).trans ?_
  rw [if_neg c1]
  by_cases c2 : i1 = 2
  · refine (if_pos c2).trans ?_
    exact Eq.trans (rfl) (congrArg some (if_pos c2).symm)
  refine (if_neg c2).trans ?_
  rw [if_neg c2]
  by_cases c3 : i1 = 3
  · refine (if_pos c3).trans ?_
    exact Eq.trans (rfl) (congrArg some (if_pos c3).symm)
  refine (if_neg c3).trans ?_
  rw [if_neg c3]
  by_cases c4 : i1 = 4
  · refine (if_pos c4).trans ?_
    exact Eq.trans (e4) (congrArg some (if_pos c4).symm)
  refine (if_neg c4).trans ?_
  rw [if_neg c4]
  by_cases c5 : i1 = 5
  · refine (if_pos c5).trans ?_
    exact Eq.trans (bto (c_steps J hf hh) rfl) (congrArg some (if_pos c5).symm)
  refine (if_neg c5).trans ?_
  rw [if_neg c5]
  by_cases c6 : i1 = 6
  · refine (if_pos c6).trans ?_
    exact Eq.trans (bto (c_skipped J hf hh) rfl) (congrArg some (if_pos c6).symm)
  refine (if_neg c6).trans ?_
  rw [if_neg c6]
  by_cases c7 : i1 = 7
  · refine (if_pos c7).trans ?_
    exact Eq.trans (bto (yFlag_count hB) rfl) (congrArg some (if_pos c7).symm)
  refine (if_neg c7).trans ?_
  rw [if_neg c7]
  by_cases c8 : i1 = 8
  · refine (if_pos c8).trans ?_
    exact Eq.trans (bto (yFlag_count hK) rfl) (congrArg some (if_pos c8).symm)
  refine (if_neg c8).trans ?_
  rw [if_neg c8]
  by_cases c9 : i1 = 9
  · refine (if_pos c9).trans ?_
    exact Eq.trans (rfl) (congrArg some (if_pos c9).symm)
  refine (if_neg c9).trans ?_
  rw [if_neg c9]
  by_cases c10 : i1 = 10
  · refine (if_pos c10).trans ?_
    exact Eq.trans (rfl) (congrArg some (if_pos c10).symm)
  refine (if_neg c10).trans ?_
  rw [if_neg c10]
  by_cases c11 : i1 = 11
  · refine (if_pos c11).trans ?_
    exact Eq.trans (e11) (congrArg some (if_pos c11).symm)
  refine (if_neg c11).trans ?_
  rw [if_neg c11]
  by_cases c12 : i1 = 12
  · refine (if_pos c12).trans ?_
    exact Eq.trans (rfl) (congrArg some (if_pos c12).symm)
  refine (if_neg c12).trans ?_
  rw [if_neg c12]
  by_cases c13 : i1 = 13
  · refine (if_pos c13).trans ?_
    exact Eq.trans (e13) (congrArg some (if_pos c13).symm)
  refine (if_neg c13).trans ?_
  rw [if_neg c13]
  by_cases c14 : i1 = 14
  · refine (if_pos c14).trans ?_
    exact Eq.trans rfl (congrArg some (if_pos c14).symm)
  refine (if_neg c14).trans ?_
  rw [if_neg c14]
  by_cases h0 : Rn = 0
  · rw [h0, hz h0]
    rfl
  · have e : yMv r k c g s G H B K be wo Rn Rk (yb ro, obl, if ro = true then oti else -1) 15 = nI Rk := if_neg h0
    rw [e]
theorem c_mesh {r k c g s Rn Rk : Nat} {f h : Nat → Int32} {G H B K : Nat → Nat → Int32} {wb wk obl oti be wo i1 : Int32} (ro : Bool) (J : yJob r k c g s) (hf : yTq r k f G) (hh : yTq k c h H) (hB : yFlag wb B) (hK : yFlag wk K) (hr : fX5_runs obl = some (yb ro)) (hz : Rn = 0 → Rk = 0) (hv : yIn i1 0 15 = true) : fX6_mesh (nI r) (nI k) (nI c) (nI g) (nI s) f h wb wk (nI Rn) (nI Rk) oti obl be wo i1 = some (yMT (yMv r k c g s G H B K be wo Rn Rk (yb ro, obl, if ro = true then oti else -1)) i1) := by
  have l15 : Int32.toInt 15 = 15 := by decide
  have hv := yIn_of hv
  unfold fX6_mesh
  refine (if_neg (fun c1 => by
    rw [yi_lt, yI0] at c1
    omega)).trans ?_
  refine (if_pos (by
    rw [yi_le, l15]
    omega)).trans ?_
  exact bto (c_meshNumber ro J hf hh hB hK hr hz) rfl
theorem c_bit {x : Int32} {B : Nat → Nat → Int32} {i j : Nat} (h : yFlag x B) (hi : i < 5) (hj : j < 5) : (x &&& ((1 : Int32) <<< (nI (i * 5 + j) &&& 31)) = 0) = (B i j = 0) := by
  have e := c_brokenAt h hi hj
  unfold fX0_isBrokenAt at e
  have e2 : ((fX0_bitOf (nI i) (nI j)).bind fun x_1 => (if (x &&& x_1) = 0 then some (0 : Int32) else some 1)) = (if (x &&& ((1 : Int32) <<< (nI (i * 5 + j) &&& 31))) = 0 then some (0 : Int32) else some 1) := bto c_bitOf rfl
  rw [e2] at e
  refine propext ⟨fun w => ?_, fun w => ?_⟩
  · rw [if_pos w] at e
    by_cases b : B i j = 0
    · exact b
    · rw [decide_eq_false b] at e
      exact absurd e (by decide)
  · by_cases q : (x &&& ((1 : Int32) <<< (nI (i * 5 + j) &&& 31))) = 0
    · exact q
    · rw [if_neg q, decide_eq_true w] at e
      exact absurd e (by decide)
def ySub (B K : Nat → Nat → Int32) : Prop := ∀ i j, i < 5 → j < 5 → B i j = 0 → K i j = 0
theorem c_stateOf {wb wk : Int32} {B K : Nat → Nat → Int32} {i j : Nat} (hB : yFlag wb B) (hK : yFlag wk K) (hs : ySub B K) (hi : i < 5) (hj : j < 5) : fX0_stateOf wb wk (nI i) (nI j) = some (if K i j = 0 then yb (!decide (B i j = 0)) else 2) := by
  unfold fX0_stateOf
  refine bto (c_brokenAt hB hi hj) ?_
  by_cases b : B i j = 0
  · rw [decide_eq_true b, if_pos (hs i j hi hj b)]
    rfl
  · rw [decide_eq_false b]
    refine (if_neg (by decide)).trans ?_
    refine bto c_bitOf ?_
    by_cases q : K i j = 0
    · rw [if_pos q]
      exact if_pos ((c_bit hK hi hj).mpr q)
    · rw [if_neg q]
      exact if_neg (fun w => q ((c_bit hK hi hj).mp w))
theorem c_cell_i {wb wk fr fc bt oy0 oy1 oy2 oy3 oy4 oy5 oy6 i3 : Int32} {u m : Nat → Int32} {B K U : Nat → Nat → Int32} {i j : Nat} (hB : yFlag wb B) (hK : yFlag wk K) (hs : ySub B K) (hu : yT5 u U) (hi : i < 5) (hj : j < 5) : fX6_cellNumber wb wk u m fr fc bt 0 oy0 oy1 oy2 oy3 oy4 oy5 oy6 (nI i) (nI j) i3 = some (yCT B K U 0 (-1) i j i3) := by
  unfold fX6_cellNumber yCT
  by_cases c0 : i3 = 0
  · rw [if_pos c0, if_pos c0]
    exact bto (c_stateOf hB hK hs hi hj) rfl
  rw [if_neg c0, if_neg c0]
  by_cases c1 : i3 = 1
  · rw [if_pos c1, if_pos c1]
    refine bto (e_get (by omega) (by omega)) ?_
    rw [hu i j hi hj]
  rw [if_neg c1, if_neg c1]
  by_cases c2 : i3 = 2
  · rw [if_pos c2, if_pos c2]
    rfl
  · rw [if_neg c2, if_neg c2]
    rfl
