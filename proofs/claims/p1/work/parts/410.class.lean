theorem o_J6_bitCount_0f7a4 {i1 : Int32}  : Ok (fJ6_bitCount_0f7a4 i1) (fun r => 0 ≤ r.toInt ∧ r.toInt ≤ 63) := by
  unfold fJ6_bitCount_0f7a4
  refine Ok.lt ?_
  refine Ok.lt ?_
  refine Ok.lt ?_
  refine Ok.lt ?_
  refine Ok.lt ?_
  exact Ok.some (yi_63 _)
theorem o_X4_get {hf : Nat → Int32} {row : Int32} {col : Int32}  : Ok (fX4_get hf row col) (fun _ => True) := by
  unfold fX4_get
  refine Ok.ite (fun c1 => ?_) (fun c1 => ?_)
  · exact Ok.some trivial
  · refine Ok.ite (fun c2 => ?_) (fun c2 => ?_)
    · exact Ok.some trivial
    · refine Ok.ite (fun c3 => ?_) (fun c3 => ?_)
      · exact Ok.some trivial
      · refine Ok.ite (fun c4 => ?_) (fun c4 => ?_)
        · refine Ok.grd (yi_81 c1 c2 c3 c4) ?_
          exact Ok.some trivial
        · exact Ok.some trivial
theorem o_X4_set {hf : Nat → Int32} {row : Int32} {col : Int32} {num : Int32}  : Ok (fX4_set hf row col num) (fun _ => True) := by
  unfold fX4_set
  refine Ok.ite (fun c1 => ?_) (fun c1 => ?_)
  · exact Ok.some trivial
  · refine Ok.ite (fun c2 => ?_) (fun c2 => ?_)
    · exact Ok.some trivial
    · refine Ok.ite (fun c3 => ?_) (fun c3 => ?_)
      · exact Ok.some trivial
      · refine Ok.ite (fun c4 => ?_) (fun c4 => ?_)
        · refine Ok.grd (yi_81 c1 c2 c3 c4) ?_
          exact Ok.some trivial
        · exact Ok.some trivial
theorem o_X4_fill {hf : Nat → Int32} {num : Int32}  : Ok (fX4_fill hf num) (fun r => ∀ i : Nat, i < 81 → r i = num) := by
  unfold fX4_fill
  refine Ok.bind (Ok.ct (P := fun b_1 => ∀ i : Nat, i < 81 → b_1.2 i = num) (fun s_1 => ∀ i : Nat, (i : Int) < s_1.1.toInt → s_1.2 i = num) (fun s_1 => s_1.1) 81 (fun i h => absurd h (by show ¬ (i : Int) < 0; omega)) (show (0 : Int) ≤ Int32.toInt 0 by decide) (by decide) (fun s_1 i_s_1 z_s_1 => ?_)) (fun b_1 h_b_1 => ?_)
  · refine Ok.ite (fun c2 => ?_) (fun c2 => ?_)
    · exact Ok.some (fun i h => i_s_1 i (by rw [yi_le] at c2; have c2 : 81 ≤ s_1.1.toInt := c2; omega))
    · refine Ok.grd (yi_in z_s_1 (yi_nle c2 (by decide))) ?_
      exact Ok.some ⟨yi_nle c2 (by decide), rfl, fun i h => yi_fill z_s_1 (yi_nle c2 (by decide)) i_s_1 i h⟩
  exact Ok.some h_b_1
theorem o_X4_copyFrom {hf : Nat → Int32} {h2f : Nat → Int32}  : Ok (fX4_copyFrom hf h2f) (fun _ => True) := by
  unfold fX4_copyFrom
  refine Ok.bind (Ok.ct (P := fun _ => True) (fun _ => True) (fun s_1 => s_1.1) 81 trivial (show (0 : Int) ≤ Int32.toInt 0 by decide) (by decide) (fun s_1 i_s_1 z_s_1 => ?_)) (fun b_1 h_b_1 => ?_)
  · refine Ok.ite (fun c2 => ?_) (fun c2 => ?_)
    · exact Ok.some trivial
    · refine Ok.ite (fun c3 => ?_) (fun c3 => ?_)
      · exact Ok.some trivial
      · refine Ok.grd (yi_in z_s_1 (yi_nle c2 (by decide))) ?_
        refine Ok.grd (yi_in z_s_1 (yi_nle c2 (by decide))) ?_
        exact Ok.some ⟨yi_nle c3 (by decide), rfl, trivial⟩
  exact Ok.some trivial
theorem o_X0_bitOf {i1 : Int32} {i2 : Int32}  : Ok (fX0_bitOf i1 i2) (fun _ => True) := by
  unfold fX0_bitOf
  exact Ok.some trivial
theorem o_X0_mark {wb : Int32} {wk : Int32} {i1 : Int32} {i2 : Int32} {isb : Int32}  : Ok (fX0_mark wb wk i1 i2 isb) (fun _ => True) := by
  unfold fX0_mark
  refine Ok.bind (o_X0_bitOf) (fun x_1 h_x_1 => ?_)
  refine Ok.ite (fun c1 => ?_) (fun c1 => ?_)
  · exact Ok.some trivial
  · exact Ok.some trivial
theorem o_X0_isBrokenAt {wb : Int32} {i1 : Int32} {i2 : Int32}  : Ok (fX0_isBrokenAt wb i1 i2) (fun _ => True) := by
  unfold fX0_isBrokenAt
  refine Ok.bind (o_X0_bitOf) (fun x_1 h_x_1 => ?_)
  refine Ok.ite (fun c1 => ?_) (fun c1 => ?_)
  · exact Ok.some trivial
  · exact Ok.some trivial
theorem o_X0_stateOf {wb : Int32} {wk : Int32} {i1 : Int32} {i2 : Int32}  : Ok (fX0_stateOf wb wk i1 i2) (fun _ => True) := by
  unfold fX0_stateOf
  refine Ok.bind (o_X0_isBrokenAt) (fun x_1 h_x_1 => ?_)
  refine Ok.ite (fun c1 => ?_) (fun c1 => ?_)
  · exact Ok.some trivial
  · refine Ok.bind (o_X0_bitOf) (fun x_6 h_x_6 => ?_)
    refine Ok.ite (fun c2 => ?_) (fun c2 => ?_)
    · exact Ok.some trivial
    · exact Ok.some trivial
theorem o_X0_findBroken {wb : Int32} {wk : Int32}  : Ok (fX0_findBroken wb wk) (fun _ => True) := by
  unfold fX0_findBroken
  refine Ok.bind (o_J6_bitCount_0f7a4) (fun x_1 h_x_1 => ?_)
  exact Ok.some trivial
theorem o_X0_areKnownBroken {wb : Int32} {wk : Int32}  : Ok (fX0_areKnownBroken wb wk) (fun _ => True) := by
  unfold fX0_areKnownBroken
  refine Ok.ite (fun c1 => ?_) (fun c1 => ?_)
  · exact Ok.some trivial
  · exact Ok.some trivial
theorem o_X0_knownColumns {wk : Int32} {i1 : Int32}  : Ok (fX0_knownColumns wk i1) (fun _ => True) := by
  unfold fX0_knownColumns
  refine Ok.bind (Ok.ct (P := fun _ => True) (fun _ => True) (fun s_1 => s_1.2) 5 trivial (show (0 : Int) ≤ Int32.toInt 0 by decide) (by decide) (fun s_1 i_s_1 z_s_1 => ?_)) (fun b_1 h_b_1 => ?_)
  · refine Ok.ite (fun c2 => ?_) (fun c2 => ?_)
    · exact Ok.some trivial
    · refine Ok.ite (fun c3 => ?_) (fun c3 => ?_)
      · exact Ok.some ⟨yi_nle c2 (by decide), rfl, trivial⟩
      · refine Ok.lt ?_
        exact Ok.some ⟨yi_nle c2 (by decide), rfl, trivial⟩
  exact Ok.some trivial
theorem o_X0_crossKnown {wk : Int32} {i1 : Int32} {i2 : Int32}  : Ok (fX0_crossKnown wk i1 i2) (fun _ => True) := by
  unfold fX0_crossKnown
  refine Ok.bind (o_X0_knownColumns) (fun x_1 h_x_1 => ?_)
  refine Ok.ite (fun c1 => ?_) (fun c1 => ?_)
  · exact Ok.some trivial
  · exact Ok.some trivial
theorem o_X0_takeIn {wb : Int32} {wuf : Nat → Int32} {wmf : Nat → Int32} {i1 : Int32} {i2 : Int32} {i3 : Int32}  : Ok (fX0_takeIn wb wuf wmf i1 i2 i3) (fun _ => True) := by
  unfold fX0_takeIn
  refine Ok.bind (o_X0_isBrokenAt) (fun x_1 h_x_1 => ?_)
  refine Ok.bind (P := fun _ => True) ?_ (fun r_6 h_r_6 => ?_)
  · refine Ok.ite (fun c1 => ?_) (fun c1 => ?_)
    · exact Ok.some trivial
    · exact Ok.some trivial
  refine Ok.bind (o_X4_set) (fun x_7 h_x_7 => ?_)
  refine Ok.bind (o_X4_get) (fun x_11 h_x_11 => ?_)
  refine Ok.bind (o_X4_set) (fun x_15 h_x_15 => ?_)
  exact Ok.some trivial
theorem o_X0_sumOfUses {wuf : Nat → Int32}  : Ok (fX0_sumOfUses wuf) (fun _ => True) := by
  unfold fX0_sumOfUses
  refine Ok.bind (Ok.ct (P := fun _ => True) (fun _ => True) (fun s_1 => s_1.2) 5 trivial (show (0 : Int) ≤ Int32.toInt 0 by decide) (by decide) (fun s_1 i_s_1 z_s_1 => ?_)) (fun b_1 h_b_1 => ?_)
  · refine Ok.ite (fun c2 => ?_) (fun c2 => ?_)
    · exact Ok.some trivial
    · refine Ok.bind (Ok.ct (P := fun _ => True) (fun _ => True) (fun s_4 => s_4.2) 5 trivial (show (0 : Int) ≤ Int32.toInt 0 by decide) (by decide) (fun s_4 i_s_4 z_s_4 => ?_)) (fun b_4 h_b_4 => ?_)
      · refine Ok.ite (fun c4 => ?_) (fun c4 => ?_)
        · exact Ok.some trivial
        · refine Ok.bind (o_X4_get) (fun x_7 h_x_7 => ?_)
          exact Ok.some ⟨yi_nle c4 (by decide), rfl, trivial⟩
      exact Ok.some ⟨yi_nle c2 (by decide), rfl, trivial⟩
  exact Ok.some trivial
theorem o_X1_rowsInAll {jr : Int32} {js : Int32} (sm_jr : Sm jr) : Ok (fX1_rowsInAll jr js) (fun r => 0 ≤ r.toInt ∧ r.toInt ≤ jr.toInt + 1) := by
  unfold fX1_rowsInAll
  refine Ok.ite (fun c1 => ?_) (fun c1 => ?_)
  · exact Ok.some (by omega)
  · exact Ok.some (by have := yi_p1 sm_jr.2 sm_jr.1 (by decide); omega)
theorem o_X1_columnsInAll {jc : Int32} {js : Int32} (sm_jc : Sm jc) : Ok (fX1_columnsInAll jc js) (fun r => 0 ≤ r.toInt ∧ r.toInt ≤ jc.toInt + 1) := by
  unfold fX1_columnsInAll
  refine Ok.ite (fun c1 => ?_) (fun c1 => ?_)
  · exact Ok.some (by omega)
  · exact Ok.some (by have := yi_p1 sm_jc.2 sm_jc.1 (by decide); omega)
theorem o_X1_reshape {jaf : Nat → Int32} {jbf : Nat → Int32} {i1 : Int32} {i2 : Int32} {i3 : Int32}  : Ok (fX1_reshape jaf jbf i1 i2 i3) (fun r => r.1 = i1 ∧ r.2.1 = i2 ∧ r.2.2.1 = i3 ∧ (∀ i : Nat, i < 81 → r.2.2.2.1 i = 0) ∧ ∀ i : Nat, i < 81 → r.2.2.2.2 i = 0) := by
  unfold fX1_reshape
  refine Ok.bind (o_X4_fill) (fun x_1 h_x_1 => ?_)
  refine Ok.bind (o_X4_fill) (fun x_5 h_x_5 => ?_)
  exact Ok.some ⟨rfl, rfl, rfl, h_x_1, h_x_5⟩
theorem o_X1_copyFrom {jaf : Nat → Int32} {jbf : Nat → Int32} {ir : Int32} {ik : Int32} {ic : Int32} {ig : Int32} {is : Int32} {iaf : Nat → Int32} {ibf : Nat → Int32} (s9_ir : S9 ir) (s9_ik : S9 ik) (s9_ic : S9 ic) (bo_is : Bo is) : Ok (fX1_copyFrom jaf jbf ir ik ic ig is iaf ibf) (fun r => S9 r.1 ∧ S9 r.2.1 ∧ S9 r.2.2.1 ∧ Bo r.2.2.2.2.1) := by
  unfold fX1_copyFrom
  refine Ok.grd bo_is ?_
  refine Ok.bind (o_X4_copyFrom) (fun x_2 h_x_2 => ?_)
  refine Ok.bind (o_X4_copyFrom) (fun x_6 h_x_6 => ?_)
  exact Ok.some ⟨s9_ir, s9_ik, s9_ic, bo_is⟩
theorem o_X1_countOperands {jr : Int32} {jk : Int32} {jc : Int32} {jaf : Nat → Int32} {jbf : Nat → Int32} (sm_jr : Sm jr) (sm_jk : Sm jk) (sm_jc : Sm jc) : Ok (fX1_countOperands jr jk jc jaf jbf) (fun _ => True) := by
  unfold fX1_countOperands
  refine Ok.bind (Ok.ct (P := fun _ => True) (fun _ => True) (fun s_1 => s_1.2) jk.toInt trivial (show (0 : Int) ≤ Int32.toInt 0 by decide) (by have := sm_jk; omega) (fun s_1 i_s_1 z_s_1 => ?_)) (fun b_1 h_b_1 => ?_)
  · refine Ok.ite (fun c2 => ?_) (fun c2 => ?_)
    · exact Ok.some trivial
    · refine Ok.bind (Ok.ct (P := fun _ => True) (fun _ => True) (fun s_4 => s_4.2) jr.toInt trivial (show (0 : Int) ≤ Int32.toInt 0 by decide) (by have := sm_jr; omega) (fun s_4 i_s_4 z_s_4 => ?_)) (fun b_4 h_b_4 => ?_)
      · refine Ok.ite (fun c4 => ?_) (fun c4 => ?_)
        · exact Ok.some trivial
        · refine Ok.bind (o_X4_get) (fun x_19 h_x_19 => ?_)
          refine Ok.bind (P := fun _ => True) ?_ (fun r_24 h_r_24 => ?_)
          · refine Ok.ite (fun c5 => ?_) (fun c5 => ?_)
            · exact Ok.some trivial
            · exact Ok.some trivial
          exact Ok.some ⟨yi_nle c4 (Int.le_refl _), rfl, trivial⟩
      refine Ok.bind (Ok.ct (P := fun _ => True) (fun _ => True) (fun s_5 => s_5.2) jc.toInt trivial (show (0 : Int) ≤ Int32.toInt 0 by decide) (by have := sm_jc; omega) (fun s_5 i_s_5 z_s_5 => ?_)) (fun b_5 h_b_5 => ?_)
      · refine Ok.ite (fun c7 => ?_) (fun c7 => ?_)
        · exact Ok.some trivial
        · refine Ok.bind (o_X4_get) (fun x_8 h_x_8 => ?_)
          refine Ok.bind (P := fun _ => True) ?_ (fun r_13 h_r_13 => ?_)
          · refine Ok.ite (fun c8 => ?_) (fun c8 => ?_)
            · exact Ok.some trivial
            · exact Ok.some trivial
          exact Ok.some ⟨yi_nle c7 (Int.le_refl _), rfl, trivial⟩
      exact Ok.some ⟨yi_nle c2 (Int.le_refl _), rfl, trivial⟩
  exact Ok.some trivial
theorem o_X1_leftOperand {jr : Int32} {jaf : Nat → Int32} {i1 : Int32} {i2 : Int32} (sm_jr : Sm jr) : Ok (fX1_leftOperand jr jaf i1 i2) (fun _ => True) := by
  unfold fX1_leftOperand
  refine Ok.ite (fun c1 => ?_) (fun c1 => ?_)
  · refine Ok.bind (Ok.ct (P := fun _ => True) (fun _ => True) (fun s_2 => s_2.2) jr.toInt trivial (show (0 : Int) ≤ Int32.toInt 0 by decide) (by have := sm_jr; omega) (fun s_2 i_s_2 z_s_2 => ?_)) (fun b_2 h_b_2 => ?_)
    · refine Ok.ite (fun c3 => ?_) (fun c3 => ?_)
      · exact Ok.some trivial
      · refine Ok.bind (o_X4_get) (fun x_5 h_x_5 => ?_)
        exact Ok.some ⟨yi_nle c3 (Int.le_refl _), rfl, trivial⟩
    exact Ok.some trivial
  · refine Ok.bind (o_X4_get) (fun x_9 h_x_9 => ?_)
    exact Ok.some trivial
theorem o_X1_topOperand {jc : Int32} {jbf : Nat → Int32} {i1 : Int32} {i2 : Int32} (sm_jc : Sm jc) : Ok (fX1_topOperand jc jbf i1 i2) (fun _ => True) := by
  unfold fX1_topOperand
  refine Ok.ite (fun c1 => ?_) (fun c1 => ?_)
  · refine Ok.bind (Ok.ct (P := fun _ => True) (fun _ => True) (fun s_2 => s_2.2) jc.toInt trivial (show (0 : Int) ≤ Int32.toInt 0 by decide) (by have := sm_jc; omega) (fun s_2 i_s_2 z_s_2 => ?_)) (fun b_2 h_b_2 => ?_)
    · refine Ok.ite (fun c3 => ?_) (fun c3 => ?_)
      · exact Ok.some trivial
      · refine Ok.bind (o_X4_get) (fun x_5 h_x_5 => ?_)
        exact Ok.some ⟨yi_nle c3 (Int.le_refl _), rfl, trivial⟩
    exact Ok.some trivial
  · refine Ok.bind (o_X4_get) (fun x_9 h_x_9 => ?_)
    exact Ok.some trivial
theorem o_X1_firstSum {jg : Int32}  : Ok (fX1_firstSum jg) (fun _ => True) := by
  unfold fX1_firstSum
  refine Ok.ite (fun c1 => ?_) (fun c1 => ?_)
  · exact Ok.some trivial
  · refine Ok.ite (fun c2 => ?_) (fun c2 => ?_)
    · exact Ok.some trivial
    · exact Ok.some trivial
theorem o_X1_bringIn {jr : Int32} {jc : Int32} {jg : Int32} {jaf : Nat → Int32} {jbf : Nat → Int32} {i0 : Int32} {i1 : Int32} {it : Int32} {i2 : Int32} (sm_jr : Sm jr) (sm_jc : Sm jc) : Ok (fX1_bringIn jr jc jg jaf jbf i0 i1 it i2) (fun _ => True) := by
  unfold fX1_bringIn
  refine Ok.bind (o_X1_leftOperand sm_jr) (fun x_1 h_x_1 => ?_)
  refine Ok.bind (o_X1_topOperand sm_jc) (fun x_5 h_x_5 => ?_)
  refine Ok.ite (fun c1 => ?_) (fun c1 => ?_)
  · exact Ok.some trivial
  · refine Ok.ite (fun c2 => ?_) (fun c2 => ?_)
    · exact Ok.some trivial
    · exact Ok.some trivial
theorem o_X1_plainOf {jr : Int32} {jk : Int32} {jc : Int32} {jg : Int32} {jaf : Nat → Int32} {jbf : Nat → Int32} {i1 : Int32} {i2 : Int32} (sm_jr : Sm jr) (sm_jk : Sm jk) (sm_jc : Sm jc) : Ok (fX1_plainOf jr jk jc jg jaf jbf i1 i2) (fun _ => True) := by
  unfold fX1_plainOf
  refine Ok.bind (o_X1_firstSum) (fun x_1 h_x_1 => ?_)
  refine Ok.bind (Ok.ct (P := fun _ => True) (fun _ => True) (fun s_5 => s_5.2) jk.toInt trivial (show (0 : Int) ≤ Int32.toInt 0 by decide) (by have := sm_jk; omega) (fun s_5 i_s_5 z_s_5 => ?_)) (fun b_5 h_b_5 => ?_)
  · refine Ok.ite (fun c2 => ?_) (fun c2 => ?_)
    · exact Ok.some trivial
    · refine Ok.bind (o_X1_bringIn sm_jr sm_jc) (fun x_8 h_x_8 => ?_)
      exact Ok.some ⟨yi_nle c2 (Int.le_refl _), rfl, trivial⟩
  exact Ok.some trivial
theorem o_X1_isLeftNought {jr : Int32} {jaf : Nat → Int32} {it : Int32} (sm_jr : Sm jr) : Ok (fX1_isLeftNought jr jaf it) (fun _ => True) := by
  unfold fX1_isLeftNought
  refine Ok.bind (Ok.ct (P := fun _ => True) (fun _ => True) (fun s_1 => s_1) jr.toInt trivial (show (0 : Int) ≤ Int32.toInt 0 by decide) (by have := sm_jr; omega) (fun s_1 i_s_1 z_s_1 => ?_)) (fun b_1 h_b_1 => ?_)
  · refine Ok.ite (fun c2 => ?_) (fun c2 => ?_)
    · exact Ok.some trivial
    · refine Ok.bind (o_X4_get) (fun x_4 h_x_4 => ?_)
      refine Ok.ite (fun c3 => ?_) (fun c3 => ?_)
      · exact Ok.some ⟨yi_nle c2 (Int.le_refl _), rfl, trivial⟩
      · exact Ok.some trivial
  refine Ok.br (fun z_1 e_z_1 => ?_) (fun r e_rr => ?_)
  · exact Ok.some trivial
  · exact Ok.some trivial
theorem o_X1_isTopNought {jc : Int32} {jbf : Nat → Int32} {it : Int32} (sm_jc : Sm jc) : Ok (fX1_isTopNought jc jbf it) (fun _ => True) := by
  unfold fX1_isTopNought
  refine Ok.bind (Ok.ct (P := fun _ => True) (fun _ => True) (fun s_1 => s_1) jc.toInt trivial (show (0 : Int) ≤ Int32.toInt 0 by decide) (by have := sm_jc; omega) (fun s_1 i_s_1 z_s_1 => ?_)) (fun b_1 h_b_1 => ?_)
  · refine Ok.ite (fun c2 => ?_) (fun c2 => ?_)
    · exact Ok.some trivial
    · refine Ok.bind (o_X4_get) (fun x_4 h_x_4 => ?_)
      refine Ok.ite (fun c3 => ?_) (fun c3 => ?_)
      · exact Ok.some ⟨yi_nle c2 (Int.le_refl _), rfl, trivial⟩
      · exact Ok.some trivial
  refine Ok.br (fun z_1 e_z_1 => ?_) (fun r e_rr => ?_)
  · exact Ok.some trivial
  · exact Ok.some trivial
theorem o_X1_skippedSet {jr : Int32} {jk : Int32} {jc : Int32} {jg : Int32} {jaf : Nat → Int32} {jbf : Nat → Int32} (sm_jr : Sm jr) (sm_jk : Sm jk) (sm_jc : Sm jc) : Ok (fX1_skippedSet jr jk jc jg jaf jbf) (fun _ => True) := by
  unfold fX1_skippedSet
  refine Ok.ite (fun c1 => ?_) (fun c1 => ?_)
  · refine Ok.bind (Ok.ct (P := fun _ => True) (fun _ => True) (fun s_2 => s_2.2) jk.toInt trivial (show (0 : Int) ≤ Int32.toInt 0 by decide) (by have := sm_jk; omega) (fun s_2 i_s_2 z_s_2 => ?_)) (fun b_2 h_b_2 => ?_)
    · refine Ok.ite (fun c3 => ?_) (fun c3 => ?_)
      · exact Ok.some trivial
      · refine Ok.bind (o_X1_isLeftNought sm_jr) (fun x_6 h_x_6 => ?_)
        refine Ok.ite (fun c4 => ?_) (fun c4 => ?_)
        · refine Ok.bind (o_X1_isTopNought sm_jc) (fun x_12 h_x_12 => ?_)
          refine Ok.ite (fun c5 => ?_) (fun c5 => ?_)
          · exact Ok.some ⟨yi_nle c3 (Int.le_refl _), rfl, trivial⟩
          · refine Ok.lt ?_
            exact Ok.some ⟨yi_nle c3 (Int.le_refl _), rfl, trivial⟩
        · refine Ok.lt ?_
          exact Ok.some ⟨yi_nle c3 (Int.le_refl _), rfl, trivial⟩
    refine Ok.ite (fun c6 => ?_) (fun c6 => ?_)
    · exact Ok.some trivial
    · exact Ok.some trivial
  · exact Ok.some trivial
theorem o_X1_countSteps {jr : Int32} {jk : Int32} {jc : Int32} {jg : Int32} {jaf : Nat → Int32} {jbf : Nat → Int32} (sm_jr : Sm jr) (sm_jk : Sm jk) (sm_jc : Sm jc) : Ok (fX1_countSteps jr jk jc jg jaf jbf) (fun _ => True) := by
  unfold fX1_countSteps
  refine Ok.bind (o_X1_skippedSet sm_jr sm_jk sm_jc) (fun x_1 h_x_1 => ?_)
  refine Ok.bind (o_J6_bitCount_0f7a4) (fun x_5 h_x_5 => ?_)
  exact Ok.some trivial
theorem o_X2_countPieces {i1 : Int32} {i2 : Int32}  : Ok (fX2_countPieces i1 i2) (fun _ => True) := by
  unfold fX2_countPieces
  refine Ok.ite (fun c1 => ?_) (fun c1 => ?_)
  · refine Ok.grd (fun h => by rw [h] at c1; exact absurd c1 (by decide)) ?_
    exact Ok.some trivial
  · exact Ok.some trivial
theorem o_X2_countTiles {y7 : Int32} {y8 : Int32}  : Ok (fX2_countTiles y7 y8) (fun _ => True) := by
  unfold fX2_countTiles
  exact Ok.some trivial
theorem o_X2_countEdges {y0 : Int32} {y1 : Int32} {y7 : Int32} {y8 : Int32}  : Ok (fX2_countEdges y0 y1 y7 y8) (fun _ => True) := by
  unfold fX2_countEdges
  exact Ok.some trivial
theorem o_X2_countFed {y0 : Int32} {y1 : Int32} {y2 : Int32} {y7 : Int32} {y8 : Int32}  : Ok (fX2_countFed y0 y1 y2 y7 y8) (fun _ => True) := by
  unfold fX2_countFed
  refine Ok.bind (o_X2_countEdges) (fun x_1 h_x_1 => ?_)
  exact Ok.some trivial
theorem o_X2_measure {jr : Int32} {jk : Int32} {jc : Int32} {jg : Int32} {js : Int32} {jaf : Nat → Int32} {jbf : Nat → Int32} (sm_jr : Sm jr) (sm_jk : Sm jk) (sm_jc : Sm jc) : Ok (fX2_measure jr jk jc jg js jaf jbf) (fun _ => True) := by
  unfold fX2_measure
  refine Ok.bind (o_X1_rowsInAll sm_jr) (fun x_1 h_x_1 => ?_)
  refine Ok.bind (o_X1_columnsInAll sm_jc) (fun x_5 h_x_5 => ?_)
  refine Ok.bind (o_X1_countSteps sm_jr sm_jk sm_jc) (fun x_9 h_x_9 => ?_)
  exact Ok.some trivial
theorem o_X2_lay {y0 : Int32} {y1 : Int32} {y2 : Int32} {i1 : Int32} {i2 : Int32}  : Ok (fX2_lay y0 y1 y2 i1 i2) (fun r => r.2.2.1.toInt ≤ 63 ∧ r.2.2.2.1.toInt ≤ 63) := by
  unfold fX2_lay
  refine Ok.bind (o_J6_bitCount_0f7a4) (fun x_1 h_x_1 => ?_)
  refine Ok.bind (o_J6_bitCount_0f7a4) (fun x_5 h_x_5 => ?_)
  refine Ok.bind (o_X2_countPieces) (fun x_9 h_x_9 => ?_)
  refine Ok.bind (o_X2_countPieces) (fun x_13 h_x_13 => ?_)
  refine Ok.bind (o_X2_countEdges) (fun x_17 h_x_17 => ?_)
  refine Ok.bind (o_X2_countTiles) (fun x_21 h_x_21 => ?_)
  exact Ok.some ⟨h_x_1.2, h_x_5.2⟩
theorem o_X2_copyFrom {t0 : Int32} {t1 : Int32} {t2 : Int32} {t3 : Int32} {t4 : Int32}  : Ok (fX2_copyFrom t0 t1 t2 t3 t4) (fun r => r.2.2.2.2.2.1.toInt ≤ 63 ∧ r.2.2.2.2.2.2.1.toInt ≤ 63) := by
  unfold fX2_copyFrom
  refine Ok.bind (o_X2_lay) (fun x_1 h_x_1 => ?_)
  exact Ok.some ⟨h_x_1.1, h_x_1.2⟩
theorem o_X2_isEmpty {y3 : Int32} {y4 : Int32}  : Ok (fX2_isEmpty y3 y4) (fun _ => True) := by
  unfold fX2_isEmpty
  refine Ok.ite (fun c1 => ?_) (fun c1 => ?_)
  · exact Ok.some trivial
  · refine Ok.ite (fun c2 => ?_) (fun c2 => ?_)
    · exact Ok.some trivial
    · exact Ok.some trivial
theorem o_X2_isBetterThan {y5 : Int32} {y6 : Int32} {y9 : Int32} {t5 : Int32} {t6 : Int32} {t9 : Int32}  : Ok (fX2_isBetterThan y5 y6 y9 t5 t6 t9) (fun _ => True) := by
  unfold fX2_isBetterThan
  refine Ok.ite (fun c1 => ?_) (fun c1 => ?_)
  · refine Ok.ite (fun c2 => ?_) (fun c2 => ?_)
    · exact Ok.some trivial
    · exact Ok.some trivial
  · refine Ok.ite (fun c3 => ?_) (fun c3 => ?_)
    · exact Ok.some trivial
    · exact Ok.some trivial
theorem o_X3_clear   : Ok (fX3_clear ) (fun r => r = (0, 0, 0)) := by
  unfold fX3_clear
  exact Ok.some rfl
theorem o_X3_open {jr : Int32} {jc : Int32} {js : Int32} (s9_jr : S9 jr) (s9_jc : S9 jc) (bo_js : Bo js) : Ok (fX3_open jr jc js) (fun r => SX r.1 ∧ SX r.2.1 ∧ Bo r.2.2) := by
  unfold fX3_open
  refine Ok.bind (o_X1_rowsInAll (by omega)) (fun x_1 h_x_1 => ?_)
  refine Ok.bind (o_X1_columnsInAll (by omega)) (fun x_5 h_x_5 => ?_)
  refine Ok.grd bo_js ?_
  exact Ok.some (show SX x_1 ∧ SX x_5 ∧ Bo js from ⟨⟨h_x_1.1, by omega⟩, ⟨h_x_5.1, by omega⟩, bo_js⟩)
theorem o_X3_has {zr : Int32} {zc : Int32} {i1 : Int32} {i2 : Int32}  : Ok (fX3_has zr zc i1 i2) (fun _ => True) := by
  unfold fX3_has
  refine Ok.ite (fun c1 => ?_) (fun c1 => ?_)
  · exact Ok.some trivial
  · refine Ok.ite (fun c2 => ?_) (fun c2 => ?_)
    · exact Ok.some trivial
    · refine Ok.ite (fun c3 => ?_) (fun c3 => ?_)
      · exact Ok.some trivial
      · refine Ok.ite (fun c4 => ?_) (fun c4 => ?_)
        · exact Ok.some trivial
        · exact Ok.some trivial
theorem o_X3_rowError {zc : Int32} {zvf : Nat → Int32} {i1 : Int32} (sm_zc : Sm zc) : Ok (fX3_rowError zc zvf i1) (fun _ => True) := by
  unfold fX3_rowError
  refine Ok.bind (o_X4_get) (fun x_1 h_x_1 => ?_)
  refine Ok.bind (Ok.ct (P := fun _ => True) (fun _ => True) (fun s_5 => s_5.2) ((zc - 1).toInt) trivial (show (0 : Int) ≤ Int32.toInt 0 by decide) (Sm.sub1 sm_zc) (fun s_5 i_s_5 z_s_5 => ?_)) (fun b_5 h_b_5 => ?_)
  · refine Ok.ite (fun c2 => ?_) (fun c2 => ?_)
    · exact Ok.some trivial
    · refine Ok.bind (o_X4_get) (fun x_8 h_x_8 => ?_)
      exact Ok.some ⟨yi_nle c2 (Int.le_refl _), rfl, trivial⟩
  exact Ok.some trivial
theorem o_X3_columnError {zr : Int32} {zvf : Nat → Int32} {i1 : Int32} (sm_zr : Sm zr) : Ok (fX3_columnError zr zvf i1) (fun _ => True) := by
  unfold fX3_columnError
  refine Ok.bind (o_X4_get) (fun x_1 h_x_1 => ?_)
  refine Ok.bind (Ok.ct (P := fun _ => True) (fun _ => True) (fun s_5 => s_5.2) ((zr - 1).toInt) trivial (show (0 : Int) ≤ Int32.toInt 0 by decide) (Sm.sub1 sm_zr) (fun s_5 i_s_5 z_s_5 => ?_)) (fun b_5 h_b_5 => ?_)
  · refine Ok.ite (fun c2 => ?_) (fun c2 => ?_)
    · exact Ok.some trivial
    · refine Ok.bind (o_X4_get) (fun x_8 h_x_8 => ?_)
      exact Ok.some ⟨yi_nle c2 (Int.le_refl _), rfl, trivial⟩
  exact Ok.some trivial
theorem o_X3_mend {zr : Int32} {zc : Int32} {zvf : Nat → Int32} {i1 : Int32} {i2 : Int32} (sm_zr : Sm zr) (sm_zc : Sm zc) : Ok (fX3_mend zr zc zvf i1 i2) (fun _ => True) := by
  unfold fX3_mend
  refine Ok.bind (o_X4_get) (fun x_1 h_x_1 => ?_)
  refine Ok.bind (P := fun _ => True) ?_ (fun r_14 h_r_14 => ?_)
  · refine Ok.ite (fun c1 => ?_) (fun c1 => ?_)
    · refine Ok.bind (o_X3_rowError sm_zc) (fun x_47 h_x_47 => ?_)
      exact Ok.some trivial
    · refine Ok.bind (o_X3_rowError sm_zc) (fun x_42 h_x_42 => ?_)
      exact Ok.some trivial
  refine Ok.bind (P := fun _ => True) ?_ (fun r_24 h_r_24 => ?_)
  · refine Ok.ite (fun c2 => ?_) (fun c2 => ?_)
    · refine Ok.bind (o_X3_columnError sm_zr) (fun x_36 h_x_36 => ?_)
      exact Ok.some trivial
    · refine Ok.bind (o_X3_columnError sm_zr) (fun x_31 h_x_31 => ?_)
      exact Ok.some trivial
  refine Ok.ite (fun c3 => ?_) (fun c3 => ?_)
  · refine Ok.bind (o_X4_set) (fun x_26 h_x_26 => ?_)
    exact Ok.some trivial
  · exact Ok.some trivial
theorem o_X3_judge {zr : Int32} {zc : Int32} {zvf : Nat → Int32} (sm_zr : Sm zr) (sm_zc : Sm zc) : Ok (fX3_judge zr zc zvf) (fun _ => True) := by
  unfold fX3_judge
  refine Ok.bind (Ok.ct (P := fun _ => True) (fun _ => True) (fun s_1 => s_1.2.2) zr.toInt trivial (show (0 : Int) ≤ Int32.toInt 0 by decide) (by have := sm_zr; omega) (fun s_1 i_s_1 z_s_1 => ?_)) (fun b_1 h_b_1 => ?_)
  · refine Ok.ite (fun c2 => ?_) (fun c2 => ?_)
    · exact Ok.some trivial
    · refine Ok.bind (o_X3_rowError sm_zc) (fun x_26 h_x_26 => ?_)
      refine Ok.ite (fun c3 => ?_) (fun c3 => ?_)
      · exact Ok.some ⟨yi_nle c2 (Int.le_refl _), rfl, trivial⟩
      · exact Ok.some ⟨yi_nle c2 (Int.le_refl _), rfl, trivial⟩
  refine Ok.bind (Ok.ct (P := fun _ => True) (fun _ => True) (fun s_2 => s_2.2.2) zc.toInt trivial (show (0 : Int) ≤ Int32.toInt 0 by decide) (by have := sm_zc; omega) (fun s_2 i_s_2 z_s_2 => ?_)) (fun b_2 h_b_2 => ?_)
  · refine Ok.ite (fun c5 => ?_) (fun c5 => ?_)
    · exact Ok.some trivial
    · refine Ok.bind (o_X3_columnError sm_zr) (fun x_19 h_x_19 => ?_)
      refine Ok.ite (fun c6 => ?_) (fun c6 => ?_)
      · exact Ok.some ⟨yi_nle c5 (Int.le_refl _), rfl, trivial⟩
      · exact Ok.some ⟨yi_nle c5 (Int.le_refl _), rfl, trivial⟩
  refine Ok.ite (fun c7 => ?_) (fun c7 => ?_)
  · refine Ok.ite (fun c8 => ?_) (fun c8 => ?_)
    · exact Ok.some trivial
    · refine Ok.ite (fun c9 => ?_) (fun c9 => ?_)
      · refine Ok.ite (fun c10 => ?_) (fun c10 => ?_)
        · refine Ok.bind (o_X3_mend sm_zr sm_zc) (fun x_13 h_x_13 => ?_)
          exact Ok.some trivial
        · exact Ok.some trivial
      · exact Ok.some trivial
  · refine Ok.ite (fun c11 => ?_) (fun c11 => ?_)
    · refine Ok.ite (fun c12 => ?_) (fun c12 => ?_)
      · refine Ok.bind (o_X3_mend sm_zr sm_zc) (fun x_6 h_x_6 => ?_)
        exact Ok.some trivial
      · exact Ok.some trivial
    · exact Ok.some trivial
theorem o_X5_memberOf {i1 : Int32} {i2 : Int32}  : Ok (fX5_memberOf i1 i2) (fun _ => True) := by
  unfold fX5_memberOf
  refine Ok.bind (Ok.ct (P := fun _ => True) (fun _ => True) (fun s_1 => s_1.2) 8 trivial (show (0 : Int) ≤ Int32.toInt 0 by decide) (by decide) (fun s_1 i_s_1 z_s_1 => ?_)) (fun b_1 h_b_1 => ?_)
  · refine Ok.ite (fun c2 => ?_) (fun c2 => ?_)
    · exact Ok.some trivial
    · refine Ok.ite (fun c3 => ?_) (fun c3 => ?_)
      · exact Ok.some ⟨yi_nle c2 (by decide), rfl, trivial⟩
      · refine Ok.ite (fun c4 => ?_) (fun c4 => ?_)
        · exact Ok.some trivial
        · exact Ok.some ⟨yi_nle c2 (by decide), rfl, trivial⟩
  refine Ok.br (fun z_1 e_z_1 => ?_) (fun r e_rr => ?_)
  · exact Ok.some trivial
  · exact Ok.some trivial
theorem o_X5_placeOf {i1 : Int32} {i2 : Int32}  : Ok (fX5_placeOf i1 i2) (fun _ => True) := by
  unfold fX5_placeOf
  refine Ok.bind (o_J6_bitCount_0f7a4) (fun x_1 h_x_1 => ?_)
  exact Ok.some trivial
theorem o_X5_runs {obl : Int32}  : Ok (fX5_runs obl) (fun _ => True) := by
  unfold fX5_runs
  refine Ok.ite (fun c1 => ?_) (fun c1 => ?_)
  · exact Ok.some trivial
  · exact Ok.some trivial
theorem o_X5_openTile {ojg : Int32} {wmf : Nat → Int32}  : Ok (fX5_openTile ojg wmf) (fun _ => True) := by
  unfold fX5_openTile
  refine Ok.bind (o_X1_firstSum) (fun x_1 h_x_1 => ?_)
  refine Ok.bind (o_X4_fill) (fun x_5 h_x_5 => ?_)
  exact Ok.some trivial
theorem o_X5_begin {ose : Int32} {ojaf : Nat → Int32} {ojbf : Nat → Int32} {jr : Int32} {jk : Int32} {jc : Int32} {jg : Int32} {js : Int32} {jaf : Nat → Int32} {jbf : Nat → Int32} {t0 : Int32} {t1 : Int32} {t2 : Int32} {t3 : Int32} {t4 : Int32} {wmf : Nat → Int32} (s9_jr : S9 jr) (s9_jk : S9 jk) (s9_jc : S9 jc) (bo_js : Bo js) : Ok (fX5_begin ose ojaf ojbf jr jk jc jg js jaf jbf t0 t1 t2 t3 t4 wmf) (fun r => S9 r.2.2.2.2.2.2.2.1 ∧ S9 r.2.2.2.2.2.2.2.2.1 ∧ S9 r.2.2.2.2.2.2.2.2.2.1 ∧ Bo r.2.2.2.2.2.2.2.2.2.2.2.1 ∧ r.2.2.2.2.2.2.2.2.2.2.2.2.2.2.2.2.2.2.2.1.toInt ≤ 63 ∧ r.2.2.2.2.2.2.2.2.2.2.2.2.2.2.2.2.2.2.2.2.1.toInt ≤ 63) := by
  unfold fX5_begin
  refine Ok.bind (o_X1_copyFrom s9_jr s9_jk s9_jc bo_js) (fun x_1 h_x_1 => ?_)
  refine Ok.bind (o_X2_copyFrom) (fun x_5 h_x_5 => ?_)
  refine Ok.bind (o_X1_skippedSet (by first | assumption | decide | omega) (by first | assumption | decide | omega) (by first | assumption | decide | omega)) (fun x_9 h_x_9 => ?_)
  refine Ok.bind (o_X5_openTile) (fun x_13 h_x_13 => ?_)
  exact Ok.some ⟨h_x_1.1, h_x_1.2.1, h_x_1.2.2.1, h_x_1.2.2.2, h_x_5.1, h_x_5.2⟩
theorem o_X5_tileRows {ofr : Int32} {oy0 : Int32} {oy5 : Int32}  : Ok (fX5_tileRows ofr oy0 oy5) (fun r => r.toInt ≤ oy5.toInt) := by
  unfold fX5_tileRows
  exact Ok.some yi_min_le
theorem o_X5_tileColumns {ofc : Int32} {oy1 : Int32} {oy6 : Int32}  : Ok (fX5_tileColumns ofc oy1 oy6) (fun r => r.toInt ≤ oy6.toInt) := by
  unfold fX5_tileColumns
  exact Ok.some yi_min_le
theorem o_X5_beatsOfTile {ofr : Int32} {ofc : Int32} {oy0 : Int32} {oy1 : Int32} {oy2 : Int32} {oy5 : Int32} {oy6 : Int32}  : Ok (fX5_beatsOfTile ofr ofc oy0 oy1 oy2 oy5 oy6) (fun _ => True) := by
  unfold fX5_beatsOfTile
  refine Ok.bind (o_X5_tileRows) (fun x_1 h_x_1 => ?_)
  refine Ok.bind (o_X5_tileColumns) (fun x_5 h_x_5 => ?_)
  exact Ok.some trivial
theorem o_X5_feed {osk : Int32} {ofr : Int32} {ofc : Int32} {obt : Int32} {ojr : Int32} {ojc : Int32} {ojg : Int32} {ojaf : Nat → Int32} {ojbf : Nat → Int32} {oy2 : Int32} {oy3 : Int32} {oy4 : Int32} {wb : Int32} {wuf : Nat → Int32} {wmf : Nat → Int32} {i1 : Int32} {i2 : Int32} (sm_ojr : Sm ojr) (sm_ojc : Sm ojc) : Ok (fX5_feed osk ofr ofc obt ojr ojc ojg ojaf ojbf oy2 oy3 oy4 wb wuf wmf i1 i2) (fun _ => True) := by
  unfold fX5_feed
  refine Ok.ite (fun c1 => ?_) (fun c1 => ?_)
  · exact Ok.some trivial
  · refine Ok.ite (fun c2 => ?_) (fun c2 => ?_)
    · refine Ok.bind (o_X5_memberOf) (fun x_3 h_x_3 => ?_)
      refine Ok.bind (o_X5_memberOf) (fun x_7 h_x_7 => ?_)
      refine Ok.bind (o_X5_memberOf) (fun x_11 h_x_11 => ?_)
      refine Ok.bind (o_X4_get) (fun x_15 h_x_15 => ?_)
      refine Ok.bind (o_X1_bringIn sm_ojr sm_ojc) (fun x_19 h_x_19 => ?_)
      refine Ok.bind (o_X0_takeIn) (fun x_23 h_x_23 => ?_)
      exact Ok.some trivial
    · exact Ok.some trivial
theorem o_X5_drain {ofr : Int32} {ofc : Int32} {oy0 : Int32} {oy1 : Int32} {oy3 : Int32} {oy4 : Int32} {oy5 : Int32} {oy6 : Int32} {wmf : Nat → Int32} {zvf : Nat → Int32} (up_oy5 : Up oy5) (up_oy6 : Up oy6) : Ok (fX5_drain ofr ofc oy0 oy1 oy3 oy4 oy5 oy6 wmf zvf) (fun _ => True) := by
  unfold fX5_drain
  refine Ok.bind (Ok.ct (P := fun _ => True) (fun _ => True) (fun s_1 => s_1.1) 200 trivial (show (0 : Int) ≤ Int32.toInt 0 by decide) (by decide) (fun s_1 i_s_1 z_s_1 => ?_)) (fun b_1 h_b_1 => ?_)
  · refine Ok.bind (o_X5_tileRows) (fun x_2 h_x_2 => ?_)
    refine Ok.ite (fun c2 => ?_) (fun c2 => ?_)
    · exact Ok.some trivial
    · refine Ok.bind (Ok.ct (P := fun _ => True) (fun _ => True) (fun s_8 => s_8.1) 200 trivial (show (0 : Int) ≤ Int32.toInt 0 by decide) (by decide) (fun s_8 i_s_8 z_s_8 => ?_)) (fun b_8 h_b_8 => ?_)
      · refine Ok.bind (o_X5_tileColumns) (fun x_9 h_x_9 => ?_)
        refine Ok.ite (fun c4 => ?_) (fun c4 => ?_)
        · exact Ok.some trivial
        · refine Ok.bind (o_X5_memberOf) (fun x_15 h_x_15 => ?_)
          refine Ok.bind (o_X5_memberOf) (fun x_19 h_x_19 => ?_)
          refine Ok.bind (o_X4_get) (fun x_23 h_x_23 => ?_)
          refine Ok.bind (o_X4_set) (fun x_27 h_x_27 => ?_)
          exact Ok.some ⟨yi_nle c4 (by first | exact h_x_9 | omega), rfl, trivial⟩
      exact Ok.some ⟨yi_nle c2 (by first | exact h_x_2 | omega), rfl, trivial⟩
  exact Ok.some trivial
theorem o_X5_closeTile {oti : Int32} {ofr : Int32} {ofc : Int32} {obt : Int32} {obl : Int32} {otk : Int32} {ojr : Int32} {ojc : Int32} {ojg : Int32} {ojs : Int32} {oy0 : Int32} {oy1 : Int32} {oy2 : Int32} {oy3 : Int32} {oy4 : Int32} {oy5 : Int32} {oy6 : Int32} {wmf : Nat → Int32} {zr : Int32} {zc : Int32} {zs : Int32} {zvf : Nat → Int32} (s9_ojr : S9 ojr) (s9_ojc : S9 ojc) (bo_ojs : Bo ojs) (up_oy5 : Up oy5) (up_oy6 : Up oy6) (sx_zr : SX zr) (sx_zc : SX zc) (bo_zs : Bo zs) : Ok (fX5_closeTile oti ofr ofc obt obl otk ojr ojc ojg ojs oy0 oy1 oy2 oy3 oy4 oy5 oy6 wmf zr zc zs zvf) (fun r => SX r.2.2.2.2.2.2.1 ∧ SX r.2.2.2.2.2.2.2.1 ∧ Bo r.2.2.2.2.2.2.2.2.1) := by
  unfold fX5_closeTile
  refine Ok.bind (o_X5_drain up_oy5 up_oy6) (fun x_1 h_x_1 => ?_)
  refine Ok.bind (o_X5_tileRows) (fun x_5 h_x_5 => ?_)
  refine Ok.bind (o_X5_tileColumns) (fun x_9 h_x_9 => ?_)
  refine Ok.bind (P := fun _ => True) ?_ (fun r_14 h_r_14 => ?_)
  · refine Ok.ite (fun c1 => ?_) (fun c1 => ?_)
    · exact Ok.some trivial
    · exact Ok.some trivial
  refine Ok.bind (o_X5_runs) (fun x_15 h_x_15 => ?_)
  refine Ok.ite (fun c2 => ?_) (fun c2 => ?_)
  · refine Ok.bind (o_X3_open s9_ojr s9_ojc bo_ojs) (fun x_20 h_x_20 => ?_)
    exact Ok.some h_x_20
  · refine Ok.bind (o_X5_openTile) (fun x_24 h_x_24 => ?_)
    exact Ok.some ⟨sx_zr, sx_zc, bo_zs⟩
theorem o_X5_pulse {osk : Int32} {oti : Int32} {ofr : Int32} {ofc : Int32} {obt : Int32} {obl : Int32} {obe : Int32} {otk : Int32} {ojr : Int32} {ojc : Int32} {ojg : Int32} {ojs : Int32} {ojaf : Nat → Int32} {ojbf : Nat → Int32} {oy0 : Int32} {oy1 : Int32} {oy2 : Int32} {oy3 : Int32} {oy4 : Int32} {oy5 : Int32} {oy6 : Int32} {wb : Int32} {wuf : Nat → Int32} {wmf : Nat → Int32} {zr : Int32} {zc : Int32} {zs : Int32} {zvf : Nat → Int32} (s9_ojr : S9 ojr) (s9_ojc : S9 ojc) (bo_ojs : Bo ojs) (up_oy5 : Up oy5) (up_oy6 : Up oy6) (sx_zr : SX zr) (sx_zc : SX zc) (bo_zs : Bo zs) : Ok (fX5_pulse osk oti ofr ofc obt obl obe otk ojr ojc ojg ojs ojaf ojbf oy0 oy1 oy2 oy3 oy4 oy5 oy6 wb wuf wmf zr zc zs zvf) (fun r => SX r.2.2.2.2.2.2.2.2.2.1 ∧ SX r.2.2.2.2.2.2.2.2.2.2.1 ∧ Bo r.2.2.2.2.2.2.2.2.2.2.2.1) := by
  unfold fX5_pulse
  refine Ok.bind (Ok.ct (P := fun _ => True) (fun _ => True) (fun s_1 => s_1.1) 200 trivial (show (0 : Int) ≤ Int32.toInt 0 by decide) (by decide) (fun s_1 i_s_1 z_s_1 => ?_)) (fun b_1 h_b_1 => ?_)
  · refine Ok.bind (o_X5_tileRows) (fun x_11 h_x_11 => ?_)
    refine Ok.ite (fun c2 => ?_) (fun c2 => ?_)
    · exact Ok.some trivial
    · refine Ok.bind (Ok.ct (P := fun _ => True) (fun _ => True) (fun s_17 => s_17.1) 200 trivial (show (0 : Int) ≤ Int32.toInt 0 by decide) (by decide) (fun s_17 i_s_17 z_s_17 => ?_)) (fun b_17 h_b_17 => ?_)
      · refine Ok.bind (o_X5_tileColumns) (fun x_18 h_x_18 => ?_)
        refine Ok.ite (fun c4 => ?_) (fun c4 => ?_)
        · exact Ok.some trivial
        · refine Ok.bind (o_X5_feed (by omega) (by omega)) (fun x_24 h_x_24 => ?_)
          exact Ok.some ⟨yi_nle c4 (by first | exact h_x_18 | omega), rfl, trivial⟩
      exact Ok.some ⟨yi_nle c2 (by first | exact h_x_11 | omega), rfl, trivial⟩
  refine Ok.bind (o_X5_beatsOfTile) (fun x_2 h_x_2 => ?_)
  refine Ok.ite (fun c5 => ?_) (fun c5 => ?_)
  · exact Ok.some ⟨sx_zr, sx_zc, bo_zs⟩
  · refine Ok.bind (o_X5_closeTile s9_ojr s9_ojc bo_ojs up_oy5 up_oy6 sx_zr sx_zc bo_zs) (fun x_7 h_x_7 => ?_)
    exact Ok.some h_x_7
theorem o_X5_isInLayout {obl : Int32} {oy3 : Int32} {oy4 : Int32} {i1 : Int32} {i2 : Int32}  : Ok (fX5_isInLayout obl oy3 oy4 i1 i2) (fun _ => True) := by
  unfold fX5_isInLayout
  refine Ok.bind (o_X5_runs) (fun x_1 h_x_1 => ?_)
  refine Ok.ite (fun c1 => ?_) (fun c1 => ?_)
  · exact Ok.some trivial
  · refine Ok.ite (fun c2 => ?_) (fun c2 => ?_)
    · exact Ok.some trivial
    · refine Ok.ite (fun c3 => ?_) (fun c3 => ?_)
      · exact Ok.some trivial
      · exact Ok.some trivial
theorem o_X5_isInTile {ofr : Int32} {ofc : Int32} {obl : Int32} {oy0 : Int32} {oy1 : Int32} {oy3 : Int32} {oy4 : Int32} {oy5 : Int32} {oy6 : Int32} {i1 : Int32} {i2 : Int32}  : Ok (fX5_isInTile ofr ofc obl oy0 oy1 oy3 oy4 oy5 oy6 i1 i2) (fun _ => True) := by
  unfold fX5_isInTile
  refine Ok.bind (o_X5_isInLayout) (fun x_1 h_x_1 => ?_)
  refine Ok.ite (fun c1 => ?_) (fun c1 => ?_)
  · exact Ok.some trivial
  · refine Ok.bind (o_X5_placeOf) (fun x_6 h_x_6 => ?_)
    refine Ok.bind (o_X5_tileRows) (fun x_10 h_x_10 => ?_)
    refine Ok.ite (fun c2 => ?_) (fun c2 => ?_)
    · exact Ok.some trivial
    · refine Ok.bind (o_X5_placeOf) (fun x_15 h_x_15 => ?_)
      refine Ok.bind (o_X5_tileColumns) (fun x_19 h_x_19 => ?_)
      refine Ok.ite (fun c3 => ?_) (fun c3 => ?_)
      · exact Ok.some trivial
      · exact Ok.some trivial
theorem o_X5_lastStepOf {ofr : Int32} {ofc : Int32} {obt : Int32} {obl : Int32} {oy0 : Int32} {oy1 : Int32} {oy2 : Int32} {oy3 : Int32} {oy4 : Int32} {oy5 : Int32} {oy6 : Int32} {i1 : Int32} {i2 : Int32}  : Ok (fX5_lastStepOf ofr ofc obt obl oy0 oy1 oy2 oy3 oy4 oy5 oy6 i1 i2) (fun _ => True) := by
  unfold fX5_lastStepOf
  refine Ok.bind (o_X5_isInTile) (fun x_1 h_x_1 => ?_)
  refine Ok.ite (fun c1 => ?_) (fun c1 => ?_)
  · exact Ok.some trivial
  · refine Ok.bind (o_X5_placeOf) (fun x_6 h_x_6 => ?_)
    refine Ok.bind (o_X5_placeOf) (fun x_10 h_x_10 => ?_)
    refine Ok.ite (fun c2 => ?_) (fun c2 => ?_)
    · exact Ok.some trivial
    · refine Ok.ite (fun c3 => ?_) (fun c3 => ?_)
      · exact Ok.some trivial
      · exact Ok.some trivial
theorem o_X5_takenInTile {ofr : Int32} {ofc : Int32} {obt : Int32} {obl : Int32} {oy0 : Int32} {oy1 : Int32} {oy2 : Int32} {oy5 : Int32} {oy6 : Int32} (up_oy5 : Up oy5) (up_oy6 : Up oy6) : Ok (fX5_takenInTile ofr ofc obt obl oy0 oy1 oy2 oy5 oy6) (fun _ => True) := by
  unfold fX5_takenInTile
  refine Ok.bind (o_X5_runs) (fun x_1 h_x_1 => ?_)
  refine Ok.ite (fun c1 => ?_) (fun c1 => ?_)
  · exact Ok.some trivial
  · refine Ok.bind (Ok.ct (P := fun _ => True) (fun _ => True) (fun s_6 => s_6.2) 200 trivial (show (0 : Int) ≤ Int32.toInt 0 by decide) (by decide) (fun s_6 i_s_6 z_s_6 => ?_)) (fun b_6 h_b_6 => ?_)
    · refine Ok.bind (o_X5_tileRows) (fun x_7 h_x_7 => ?_)
      refine Ok.ite (fun c3 => ?_) (fun c3 => ?_)
      · exact Ok.some trivial
      · refine Ok.bind (Ok.ct (P := fun _ => True) (fun _ => True) (fun s_13 => s_13.2) 200 trivial (show (0 : Int) ≤ Int32.toInt 0 by decide) (by decide) (fun s_13 i_s_13 z_s_13 => ?_)) (fun b_13 h_b_13 => ?_)
        · refine Ok.bind (o_X5_tileColumns) (fun x_14 h_x_14 => ?_)
          refine Ok.ite (fun c5 => ?_) (fun c5 => ?_)
          · exact Ok.some trivial
          · refine Ok.lt ?_
            exact Ok.some ⟨yi_nle c5 (by first | exact h_x_14 | omega), rfl, trivial⟩
        exact Ok.some ⟨yi_nle c3 (by first | exact h_x_7 | omega), rfl, trivial⟩
    exact Ok.some trivial
theorem o_X5_isUnfinished {oti : Int32} {ofr : Int32} {ofc : Int32} {obt : Int32} {obl : Int32} {oy0 : Int32} {oy1 : Int32} {oy2 : Int32} {oy5 : Int32} {oy6 : Int32} {oy7 : Int32} {oy8 : Int32}  : Ok (fX5_isUnfinished oti ofr ofc obt obl oy0 oy1 oy2 oy5 oy6 oy7 oy8) (fun _ => True) := by
  unfold fX5_isUnfinished
  refine Ok.bind (o_X5_runs) (fun x_1 h_x_1 => ?_)
  refine Ok.ite (fun c1 => ?_) (fun c1 => ?_)
  · exact Ok.some trivial
  · refine Ok.bind (o_X5_beatsOfTile) (fun x_6 h_x_6 => ?_)
    refine Ok.ite (fun c2 => ?_) (fun c2 => ?_)
    · exact Ok.some trivial
    · refine Ok.bind (o_X2_countTiles) (fun x_11 h_x_11 => ?_)
      refine Ok.ite (fun c3 => ?_) (fun c3 => ?_)
      · exact Ok.some trivial
      · exact Ok.some trivial
theorem o_X6_isOperand {i1 : Int32}  : Ok (fX6_isOperand i1) (fun _ => True) := by
  unfold fX6_isOperand
  refine Ok.ite (fun c1 => ?_) (fun c1 => ?_)
  · exact Ok.some trivial
  · refine Ok.ite (fun c2 => ?_) (fun c2 => ?_)
    · exact Ok.some trivial
    · exact Ok.some trivial
theorem o_X6_isOnMesh {i1 : Int32} {i2 : Int32}  : Ok (fX6_isOnMesh i1 i2) (fun _ => True) := by
  unfold fX6_isOnMesh
  refine Ok.ite (fun c1 => ?_) (fun c1 => ?_)
  · exact Ok.some trivial
  · refine Ok.ite (fun c2 => ?_) (fun c2 => ?_)
    · exact Ok.some trivial
    · refine Ok.ite (fun c3 => ?_) (fun c3 => ?_)
      · exact Ok.some trivial
      · refine Ok.ite (fun c4 => ?_) (fun c4 => ?_)
        · exact Ok.some trivial
        · exact Ok.some trivial
theorem o_X6_shape {xjr : Int32} {xjk : Int32} {xjc : Int32} {xjaf : Nat → Int32} {xjbf : Nat → Int32} {i1 : Int32} {i2 : Int32} {i3 : Int32} (sm_xjr : Sm xjr) (sm_xjk : Sm xjk) (sm_xjc : Sm xjc) : Ok (fX6_shape xjr xjk xjc xjaf xjbf i1 i2 i3) (YS (fun e => e = 0) (fun r => S9 r.2.1 ∧ S9 r.2.2.1 ∧ S9 r.2.2.2.1)) := by
  unfold fX6_shape
  refine Ok.ite (fun c1 => ?_) (fun c1 => ?_)
  · exact Ok.some rfl
  · refine Ok.ite (fun c2 => ?_) (fun c2 => ?_)
    · exact Ok.some rfl
    · refine Ok.ite (fun c3 => ?_) (fun c3 => ?_)
      · exact Ok.some rfl
      · refine Ok.ite (fun c4 => ?_) (fun c4 => ?_)
        · exact Ok.some rfl
        · refine Ok.ite (fun c5 => ?_) (fun c5 => ?_)
          · exact Ok.some rfl
          · refine Ok.ite (fun c6 => ?_) (fun c6 => ?_)
            · refine Ok.bind (o_X1_countOperands sm_xjr sm_xjk sm_xjc) (fun x_7 h_x_7 => ?_)
              refine Ok.bind (o_X1_reshape) (fun x_11 h_x_11 => ?_)
              rw [← h_x_11.1] at c1 c2; rw [← h_x_11.2.2.1] at c3 c4; rw [← h_x_11.2.1] at c5 c6; exact Ok.some ⟨yi_s9 c1 c2, yi_s9 c5 (by rw [yi_lt]; rw [yi_le] at c6; have c6 : x_11.2.1.toInt ≤ 6 := c6; show ¬ 8 < x_11.2.1.toInt; omega), yi_s9 c3 c4⟩
            · exact Ok.some rfl
theorem o_X6_left {xjr : Int32} {xjk : Int32} {xjaf : Nat → Int32} {i1 : Int32} {i2 : Int32} {i3 : Int32}  : Ok (fX6_left xjr xjk xjaf i1 i2 i3) (YS (fun e => e = 1 ∨ e = 0) (fun _ => True)) := by
  unfold fX6_left
  refine Ok.ite (fun c1 => ?_) (fun c1 => ?_)
  · exact Ok.some (Or.inl rfl)
  · refine Ok.ite (fun c2 => ?_) (fun c2 => ?_)
    · exact Ok.some (Or.inl rfl)
    · refine Ok.ite (fun c3 => ?_) (fun c3 => ?_)
      · exact Ok.some (Or.inl rfl)
      · refine Ok.ite (fun c4 => ?_) (fun c4 => ?_)
        · refine Ok.bind (o_X6_isOperand) (fun x_5 h_x_5 => ?_)
          refine Ok.ite (fun c5 => ?_) (fun c5 => ?_)
          · exact Ok.some (Or.inr rfl)
          · refine Ok.bind (o_X4_get) (fun x_10 h_x_10 => ?_)
            refine Ok.bind (o_X4_set) (fun x_14 h_x_14 => ?_)
            exact Ok.some trivial
        · exact Ok.some (Or.inl rfl)
theorem o_X6_top {xjk : Int32} {xjc : Int32} {xjbf : Nat → Int32} {i1 : Int32} {i2 : Int32} {i3 : Int32}  : Ok (fX6_top xjk xjc xjbf i1 i2 i3) (YS (fun e => e = 1 ∨ e = 0) (fun _ => True)) := by
  unfold fX6_top
  refine Ok.ite (fun c1 => ?_) (fun c1 => ?_)
  · exact Ok.some (Or.inl rfl)
  · refine Ok.ite (fun c2 => ?_) (fun c2 => ?_)
    · exact Ok.some (Or.inl rfl)
    · refine Ok.ite (fun c3 => ?_) (fun c3 => ?_)
      · exact Ok.some (Or.inl rfl)
      · refine Ok.ite (fun c4 => ?_) (fun c4 => ?_)
        · refine Ok.bind (o_X6_isOperand) (fun x_5 h_x_5 => ?_)
          refine Ok.ite (fun c5 => ?_) (fun c5 => ?_)
          · exact Ok.some (Or.inr rfl)
          · refine Ok.bind (o_X4_get) (fun x_10 h_x_10 => ?_)
            refine Ok.bind (o_X4_set) (fun x_14 h_x_14 => ?_)
            exact Ok.some trivial
        · exact Ok.some (Or.inl rfl)
theorem o_X6_kind {xjg : Int32} {xjs : Int32} {i1 : Int32} (bo_xjs : Bo xjs) : Ok (fX6_kind xjg xjs i1) (YS (fun e => e = 0) (fun r => Bo r.2.2)) := by
  unfold fX6_kind
  refine Ok.ite (fun c1 => ?_) (fun c1 => ?_)
  · exact Ok.some rfl
  · refine Ok.ite (fun c2 => ?_) (fun c2 => ?_)
    · refine Ok.ite (fun c3 => ?_) (fun c3 => ?_)
      · exact Ok.some bo_xjs
      · exact Ok.some (Or.inl rfl)
    · exact Ok.some rfl
theorem o_X6_checked {xjg : Int32} {xjs : Int32} {i1 : Int32} (bo_xjs : Bo xjs) (bo_i1 : Bo i1) : Ok (fX6_checked xjg xjs i1) (YS (fun e => e = 2) (fun r => Bo r.2)) := by
  unfold fX6_checked
  refine Ok.ite (fun c1 => ?_) (fun c1 => ?_)
  · refine Ok.grd bo_i1 ?_
    refine Ok.grd bo_xjs ?_
    exact Ok.some bo_i1
  · refine Ok.ite (fun c2 => ?_) (fun c2 => ?_)
    · refine Ok.grd bo_i1 ?_
      refine Ok.grd bo_xjs ?_
      exact Ok.some bo_i1
    · exact Ok.some rfl
theorem o_X6_broken {xwb : Int32} {xwk : Int32} {i1 : Int32} {i2 : Int32} {isb : Int32}  : Ok (fX6_broken xwb xwk i1 i2 isb) (YS (fun e => e = 1) (fun _ => True)) := by
  unfold fX6_broken
  refine Ok.bind (o_X6_isOnMesh) (fun x_1 h_x_1 => ?_)
  refine Ok.ite (fun c1 => ?_) (fun c1 => ?_)
  · exact Ok.some rfl
  · refine Ok.bind (o_X0_mark) (fun x_6 h_x_6 => ?_)
    refine Ok.bind (o_J6_bitCount_0f7a4) (fun x_10 h_x_10 => ?_)
    exact Ok.some trivial
theorem o_X6_test {xwb : Int32} {xwk : Int32} {xobl : Int32}  : Ok (fX6_test xwb xwk xobl) (YS (fun e => e = 2) (fun _ => True)) := by
  unfold fX6_test
  refine Ok.bind (o_X5_runs) (fun x_1 h_x_1 => ?_)
  refine Ok.ite (fun c1 => ?_) (fun c1 => ?_)
  · refine Ok.bind (o_X0_findBroken) (fun x_6 h_x_6 => ?_)
    exact Ok.some trivial
  · exact Ok.some rfl
theorem o_X6_beatsOn {xwk : Int32} {xt0 : Int32} {xt1 : Int32} {xt2 : Int32} {xt3 : Int32} {xt4 : Int32} {xt5 : Int32} {xt6 : Int32} {xt7 : Int32} {xt8 : Int32} {xt9 : Int32} {i1 : Int32} {i2 : Int32}  : Ok (fX6_beatsOn xwk xt0 xt1 xt2 xt3 xt4 xt5 xt6 xt7 xt8 xt9 i1 i2) (fun _ => True) := by
  unfold fX6_beatsOn
  refine Ok.bind (o_X0_crossKnown) (fun x_1 h_x_1 => ?_)
  refine Ok.ite (fun c1 => ?_) (fun c1 => ?_)
  · refine Ok.bind (o_X2_lay) (fun x_6 h_x_6 => ?_)
    exact Ok.some trivial
  · exact Ok.some trivial
theorem o_X6_keepIfBetter {xy0 : Int32} {xy1 : Int32} {xy2 : Int32} {xy3 : Int32} {xy4 : Int32} {xy5 : Int32} {xy6 : Int32} {xy7 : Int32} {xy8 : Int32} {xy9 : Int32} {xt3 : Int32} {xt4 : Int32} {xt5 : Int32} {xt6 : Int32} {xt9 : Int32}  : Ok (fX6_keepIfBetter xy0 xy1 xy2 xy3 xy4 xy5 xy6 xy7 xy8 xy9 xt3 xt4 xt5 xt6 xt9) (fun _ => True) := by
  unfold fX6_keepIfBetter
  refine Ok.bind (o_X2_isEmpty) (fun x_1 h_x_1 => ?_)
  refine Ok.ite (fun c1 => ?_) (fun c1 => ?_)
  · refine Ok.bind (o_X2_isBetterThan) (fun x_10 h_x_10 => ?_)
    refine Ok.ite (fun c2 => ?_) (fun c2 => ?_)
    · exact Ok.some trivial
    · refine Ok.bind (o_X2_lay) (fun x_15 h_x_15 => ?_)
      exact Ok.some trivial
  · refine Ok.bind (o_X2_lay) (fun x_6 h_x_6 => ?_)
    exact Ok.some trivial
theorem o_X6_findBest {xjr : Int32} {xjk : Int32} {xjc : Int32} {xjg : Int32} {xjs : Int32} {xjaf : Nat → Int32} {xjbf : Nat → Int32} {xwk : Int32} {xt3 : Int32} {xt4 : Int32} {xt5 : Int32} {xt6 : Int32} {xt7 : Int32} {xt8 : Int32} {xt9 : Int32} (sm_xjr : Sm xjr) (sm_xjk : Sm xjk) (sm_xjc : Sm xjc) : Ok (fX6_findBest xjr xjk xjc xjg xjs xjaf xjbf xwk xt3 xt4 xt5 xt6 xt7 xt8 xt9) (fun _ => True) := by
  unfold fX6_findBest
  refine Ok.bind (o_X2_measure sm_xjr sm_xjk sm_xjc) (fun x_1 h_x_1 => ?_)
  refine Ok.bind (o_X2_lay) (fun x_5 h_x_5 => ?_)
  refine Ok.bind (o_X2_measure sm_xjr sm_xjk sm_xjc) (fun x_9 h_x_9 => ?_)
  refine Ok.bind (Ok.ct (P := fun _ => True) (fun _ => True) (fun s_13 => s_13.1) 32 trivial (show (0 : Int) ≤ Int32.toInt 1 by decide) (by decide) (fun s_13 i_s_13 z_s_13 => ?_)) (fun b_13 h_b_13 => ?_)
  · refine Ok.ite (fun c2 => ?_) (fun c2 => ?_)
    · exact Ok.some trivial
    · refine Ok.bind (o_X0_knownColumns) (fun x_16 h_x_16 => ?_)
      refine Ok.bind (Ok.ct (P := fun _ => True) (fun _ => True) (fun s_20 => s_20.1) 32 trivial (show (0 : Int) ≤ Int32.toInt 1 by decide) (by decide) (fun s_20 i_s_20 z_s_20 => ?_)) (fun b_20 h_b_20 => ?_)
      · refine Ok.ite (fun c4 => ?_) (fun c4 => ?_)
        · exact Ok.some trivial
        · refine Ok.ite (fun c5 => ?_) (fun c5 => ?_)
          · refine Ok.bind (o_X2_lay) (fun x_24 h_x_24 => ?_)
            refine Ok.bind (o_X6_keepIfBetter) (fun x_28 h_x_28 => ?_)
            exact Ok.some ⟨yi_nlt c4 (by decide), rfl, trivial⟩
          · exact Ok.some ⟨yi_nlt c4 (by decide), rfl, trivial⟩
      exact Ok.some ⟨yi_nlt c2 (by decide), rfl, trivial⟩
  exact Ok.some trivial
theorem o_X6_start {xjr : Int32} {xjk : Int32} {xjc : Int32} {xjg : Int32} {xjs : Int32} {xjaf : Nat → Int32} {xjbf : Nat → Int32} {xwk : Int32} {xwmf : Nat → Int32} {xobl : Int32} {xose : Int32} {xojaf : Nat → Int32} {xojbf : Nat → Int32} {xy0 : Int32} {xy1 : Int32} {xy2 : Int32} {xy3 : Int32} {xy4 : Int32} {xy5 : Int32} {xy6 : Int32} {xy7 : Int32} {xy8 : Int32} {xy9 : Int32} {xt0 : Int32} {xt1 : Int32} {xt2 : Int32} {xt3 : Int32} {xt4 : Int32} {xt5 : Int32} {xt6 : Int32} {xt7 : Int32} {xt8 : Int32} {xt9 : Int32} (s9_xjr : S9 xjr) (s9_xjk : S9 xjk) (s9_xjc : S9 xjc) (bo_xjs : Bo xjs) : Ok (fX6_start xjr xjk xjc xjg xjs xjaf xjbf xwk xwmf xobl xose xojaf xojbf xy0 xy1 xy2 xy3 xy4 xy5 xy6 xy7 xy8 xy9 xt0 xt1 xt2 xt3 xt4 xt5 xt6 xt7 xt8 xt9) (YS (fun e => e.1 = 2) (fun r => SX r.2.2.1 ∧ SX r.2.2.2.1 ∧ Bo r.2.2.2.2.1 ∧ S9 r.2.2.2.2.2.2.2.2.2.2.2.2.1 ∧ S9 r.2.2.2.2.2.2.2.2.2.2.2.2.2.1 ∧ S9 r.2.2.2.2.2.2.2.2.2.2.2.2.2.2.1 ∧ Bo r.2.2.2.2.2.2.2.2.2.2.2.2.2.2.2.2.1 ∧ Up r.2.2.2.2.2.2.2.2.2.2.2.2.2.2.2.2.2.2.2.2.2.2.2.2.1 ∧ Up r.2.2.2.2.2.2.2.2.2.2.2.2.2.2.2.2.2.2.2.2.2.2.2.2.2.1)) := by
  unfold fX6_start
  refine Ok.bind (o_X5_runs) (fun x_1 h_x_1 => ?_)
  refine Ok.ite (fun c1 => ?_) (fun c1 => ?_)
  · refine Ok.bind (o_X6_findBest (by omega) (by omega) (by omega)) (fun x_6 h_x_6 => ?_)
    refine Ok.bind (o_X2_isEmpty) (fun x_10 h_x_10 => ?_)
    refine Ok.ite (fun c2 => ?_) (fun c2 => ?_)
    · refine Ok.bind (o_X5_begin s9_xjr s9_xjk s9_xjc bo_xjs) (fun x_15 h_x_15 => ?_)
      refine Ok.bind (o_X3_clear) (fun x_19 h_x_19 => ?_)
      exact (by subst h_x_19; exact Ok.some ⟨(show SX 0 by decide), (show SX 0 by decide), (show Bo 0 by decide), h_x_15.1, h_x_15.2.1, h_x_15.2.2.1, h_x_15.2.2.2.1, Int.le_trans h_x_15.2.2.2.2.1 (by decide), Int.le_trans h_x_15.2.2.2.2.2 (by decide)⟩)
    · exact Ok.some rfl
  · exact Ok.some rfl
theorem o_X6_beat {xosk : Int32} {xoti : Int32} {xofr : Int32} {xofc : Int32} {xobt : Int32} {xobl : Int32} {xobe : Int32} {xotk : Int32} {xojr : Int32} {xojc : Int32} {xojg : Int32} {xojs : Int32} {xojaf : Nat → Int32} {xojbf : Nat → Int32} {xoy0 : Int32} {xoy1 : Int32} {xoy2 : Int32} {xoy3 : Int32} {xoy4 : Int32} {xoy5 : Int32} {xoy6 : Int32} {xwb : Int32} {xwuf : Nat → Int32} {xwmf : Nat → Int32} {xzr : Int32} {xzc : Int32} {xzs : Int32} {xzvf : Nat → Int32} {i1 : Int32} (s9_xojr : S9 xojr) (s9_xojc : S9 xojc) (bo_xojs : Bo xojs) (up_xoy5 : Up xoy5) (up_xoy6 : Up xoy6) (sx_xzr : SX xzr) (sx_xzc : SX xzc) (bo_xzs : Bo xzs) : Ok (fX6_beat xosk xoti xofr xofc xobt xobl xobe xotk xojr xojc xojg xojs xojaf xojbf xoy0 xoy1 xoy2 xoy3 xoy4 xoy5 xoy6 xwb xwuf xwmf xzr xzc xzs xzvf i1) (YS (fun e => e = 0 ∨ e = 2) (fun r => SX r.2.2.2.2.2.2.2.2.2.2.1 ∧ SX r.2.2.2.2.2.2.2.2.2.2.2.1 ∧ Bo r.2.2.2.2.2.2.2.2.2.2.2.2.1)) := by
  unfold fX6_beat
  refine Ok.ite (fun c1 => ?_) (fun c1 => ?_)
  · exact Ok.some (Or.inl rfl)
  · refine Ok.ite (fun c2 => ?_) (fun c2 => ?_)
    · refine Ok.bind (o_X5_runs) (fun x_3 h_x_3 => ?_)
      refine Ok.ite (fun c3 => ?_) (fun c3 => ?_)
      · exact Ok.some (Or.inr rfl)
      · refine Ok.bind (Ok.ct (P := fun b_8 => SX b_8.2.2.2.2.2.2.2.2.2.2.1 ∧ SX b_8.2.2.2.2.2.2.2.2.2.2.2.1 ∧ Bo b_8.2.2.2.2.2.2.2.2.2.2.2.2.1) (fun s_8 => SX s_8.2.2.2.2.2.2.2.2.2.2.1 ∧ SX s_8.2.2.2.2.2.2.2.2.2.2.2.1 ∧ Bo s_8.2.2.2.2.2.2.2.2.2.2.2.2.1) (fun s_8 => s_8.1) 300 ⟨sx_xzr, sx_xzc, bo_xzs⟩ (show (0 : Int) ≤ Int32.toInt 0 by decide) (by decide) (fun s_8 i_s_8 z_s_8 => ?_)) (fun b_8 h_b_8 => ?_)
        · obtain ⟨iA, iB, iC⟩ := i_s_8
          refine Ok.ite (fun c5 => ?_) (fun c5 => ?_)
          · exact Ok.some ⟨iA, iB, iC⟩
          · refine Ok.bind (o_X5_runs) (fun x_11 h_x_11 => ?_)
            refine Ok.ite (fun c6 => ?_) (fun c6 => ?_)
            · exact Ok.some ⟨iA, iB, iC⟩
            · refine Ok.bind (o_X5_pulse s9_xojr s9_xojc bo_xojs up_xoy5 up_xoy6 (by first | assumption | decide | omega) (by first | assumption | decide | omega) (by first | assumption | decide | omega)) (fun x_17 h_x_17 => ?_)
              exact Ok.some ⟨yi_nle c5 (by rw [yi_le] at c2; exact c2), rfl, h_x_17⟩
        exact Ok.some h_b_8
    · exact Ok.some (Or.inl rfl)
theorem o_X6_bend {xzr : Int32} {xzc : Int32} {xzvf : Nat → Int32} {i1 : Int32} {i2 : Int32} {i3 : Int32}  : Ok (fX6_bend xzr xzc xzvf i1 i2 i3) (YS (fun e => e = 1 ∨ e = 0) (fun _ => True)) := by
  unfold fX6_bend
  refine Ok.bind (o_X3_has) (fun x_1 h_x_1 => ?_)
  refine Ok.ite (fun c1 => ?_) (fun c1 => ?_)
  · exact Ok.some (Or.inl rfl)
  · refine Ok.ite (fun c2 => ?_) (fun c2 => ?_)
    · exact Ok.some (Or.inr rfl)
    · refine Ok.ite (fun c3 => ?_) (fun c3 => ?_)
      · refine Ok.bind (o_X4_get) (fun x_8 h_x_8 => ?_)
        refine Ok.bind (o_X4_set) (fun x_12 h_x_12 => ?_)
        exact Ok.some trivial
      · exact Ok.some (Or.inr rfl)
theorem o_X6_check {xzr : Int32} {xzc : Int32} {xzs : Int32} {xzvf : Nat → Int32} (sm_xzr : Sm xzr) (sm_xzc : Sm xzc) : Ok (fX6_check xzr xzc xzs xzvf) (YS (fun e => e = 2) (fun _ => True)) := by
  unfold fX6_check
  refine Ok.ite (fun c1 => ?_) (fun c1 => ?_)
  · exact Ok.some rfl
  · refine Ok.ite (fun c2 => ?_) (fun c2 => ?_)
    · exact Ok.some rfl
    · refine Ok.bind (o_X3_judge sm_xzr sm_xzc) (fun x_3 h_x_3 => ?_)
      exact Ok.some trivial
theorem o_X6_meshNumber {xjr : Int32} {xjk : Int32} {xjc : Int32} {xjg : Int32} {xjs : Int32} {xjaf : Nat → Int32} {xjbf : Nat → Int32} {xwb : Int32} {xwk : Int32} {xzr : Int32} {xzc : Int32} {xoti : Int32} {xobl : Int32} {xobe : Int32} {xose : Int32} {i1 : Int32} (sm_xjr : Sm xjr) (sm_xjk : Sm xjk) (sm_xjc : Sm xjc) : Ok (fX6_meshNumber xjr xjk xjc xjg xjs xjaf xjbf xwb xwk xzr xzc xoti xobl xobe xose i1) (fun _ => True) := by
  unfold fX6_meshNumber
  refine Ok.ite (fun c1 => ?_) (fun c1 => ?_)
  · exact Ok.some trivial
  · refine Ok.ite (fun c2 => ?_) (fun c2 => ?_)
    · exact Ok.some trivial
    · refine Ok.ite (fun c3 => ?_) (fun c3 => ?_)
      · exact Ok.some trivial
      · refine Ok.ite (fun c4 => ?_) (fun c4 => ?_)
        · exact Ok.some trivial
        · refine Ok.ite (fun c5 => ?_) (fun c5 => ?_)
          · refine Ok.ite (fun c6 => ?_) (fun c6 => ?_)
            · exact Ok.some trivial
            · exact Ok.some trivial
          · refine Ok.ite (fun c7 => ?_) (fun c7 => ?_)
            · refine Ok.bind (o_X1_countSteps sm_xjr sm_xjk sm_xjc) (fun x_8 h_x_8 => ?_)
              exact Ok.some trivial
            · refine Ok.ite (fun c8 => ?_) (fun c8 => ?_)
              · refine Ok.bind (o_X1_skippedSet sm_xjr sm_xjk sm_xjc) (fun x_13 h_x_13 => ?_)
                exact Ok.some trivial
              · refine Ok.ite (fun c9 => ?_) (fun c9 => ?_)
                · refine Ok.bind (o_J6_bitCount_0f7a4) (fun x_18 h_x_18 => ?_)
                  exact Ok.some trivial
                · refine Ok.ite (fun c10 => ?_) (fun c10 => ?_)
                  · refine Ok.bind (o_J6_bitCount_0f7a4) (fun x_23 h_x_23 => ?_)
                    exact Ok.some trivial
                  · refine Ok.ite (fun c11 => ?_) (fun c11 => ?_)
                    · exact Ok.some trivial
                    · refine Ok.ite (fun c12 => ?_) (fun c12 => ?_)
                      · exact Ok.some trivial
                      · refine Ok.ite (fun c13 => ?_) (fun c13 => ?_)
                        · refine Ok.bind (o_X5_runs) (fun x_30 h_x_30 => ?_)
                          refine Ok.ite (fun c14 => ?_) (fun c14 => ?_)
                          · exact Ok.some trivial
                          · exact Ok.some trivial
                        · refine Ok.ite (fun c15 => ?_) (fun c15 => ?_)
                          · exact Ok.some trivial
                          · refine Ok.ite (fun c16 => ?_) (fun c16 => ?_)
                            · refine Ok.bind (o_X5_runs) (fun x_37 h_x_37 => ?_)
                              refine Ok.ite (fun c17 => ?_) (fun c17 => ?_)
                              · exact Ok.some trivial
                              · exact Ok.some trivial
                            · refine Ok.ite (fun c18 => ?_) (fun c18 => ?_)
                              · exact Ok.some trivial
                              · exact Ok.some trivial
theorem o_X6_cellNumber {xwb : Int32} {xwk : Int32} {xwuf : Nat → Int32} {xwmf : Nat → Int32} {xofr : Int32} {xofc : Int32} {xobt : Int32} {xobl : Int32} {xoy0 : Int32} {xoy1 : Int32} {xoy2 : Int32} {xoy3 : Int32} {xoy4 : Int32} {xoy5 : Int32} {xoy6 : Int32} {i1 : Int32} {i2 : Int32} {i3 : Int32}  : Ok (fX6_cellNumber xwb xwk xwuf xwmf xofr xofc xobt xobl xoy0 xoy1 xoy2 xoy3 xoy4 xoy5 xoy6 i1 i2 i3) (fun _ => True) := by
  unfold fX6_cellNumber
  refine Ok.ite (fun c1 => ?_) (fun c1 => ?_)
  · refine Ok.bind (o_X0_stateOf) (fun x_2 h_x_2 => ?_)
    exact Ok.some trivial
  · refine Ok.ite (fun c2 => ?_) (fun c2 => ?_)
    · refine Ok.bind (o_X4_get) (fun x_7 h_x_7 => ?_)
      exact Ok.some trivial
    · refine Ok.ite (fun c3 => ?_) (fun c3 => ?_)
      · refine Ok.bind (o_X5_isInTile) (fun x_12 h_x_12 => ?_)
        refine Ok.ite (fun c4 => ?_) (fun c4 => ?_)
        · exact Ok.some trivial
        · refine Ok.bind (o_X4_get) (fun x_17 h_x_17 => ?_)
          exact Ok.some trivial
      · refine Ok.bind (o_X5_lastStepOf) (fun x_21 h_x_21 => ?_)
        exact Ok.some trivial
theorem o_X6_signOf {xwb : Int32} {xwk : Int32} {xobl : Int32} {xoy3 : Int32} {xoy4 : Int32} {i1 : Int32} {i2 : Int32}  : Ok (fX6_signOf xwb xwk xobl xoy3 xoy4 i1 i2) (fun r => r = 46 ∨ r = 63 ∨ r = 111 ∨ r = 120) := by
  unfold fX6_signOf
  refine Ok.bind (o_X0_stateOf) (fun x_1 h_x_1 => ?_)
  refine Ok.ite (fun c1 => ?_) (fun c1 => ?_)
  · exact Ok.some (by decide)
  · refine Ok.ite (fun c2 => ?_) (fun c2 => ?_)
    · exact Ok.some (by decide)
    · refine Ok.bind (o_X5_isInLayout) (fun x_7 h_x_7 => ?_)
      refine Ok.ite (fun c3 => ?_) (fun c3 => ?_)
      · exact Ok.some (by decide)
      · exact Ok.some (by decide)
theorem o_X6_bestNumber {xy0 : Int32} {xy1 : Int32} {xy2 : Int32} {xy3 : Int32} {xy4 : Int32} {xy7 : Int32} {xy8 : Int32} {xy9 : Int32} {i1 : Int32}  : Ok (fX6_bestNumber xy0 xy1 xy2 xy3 xy4 xy7 xy8 xy9 i1) (fun _ => True) := by
  unfold fX6_bestNumber
  refine Ok.bind (o_X2_isEmpty) (fun x_1 h_x_1 => ?_)
  refine Ok.ite (fun c1 => ?_) (fun c1 => ?_)
  · refine Ok.ite (fun c2 => ?_) (fun c2 => ?_)
    · exact Ok.some trivial
    · refine Ok.ite (fun c3 => ?_) (fun c3 => ?_)
      · exact Ok.some trivial
      · refine Ok.ite (fun c4 => ?_) (fun c4 => ?_)
        · exact Ok.some trivial
        · refine Ok.ite (fun c5 => ?_) (fun c5 => ?_)
          · refine Ok.bind (o_X2_countTiles) (fun x_10 h_x_10 => ?_)
            exact Ok.some trivial
          · refine Ok.bind (o_X2_countFed) (fun x_14 h_x_14 => ?_)
            exact Ok.some trivial
  · exact Ok.some trivial
theorem o_X6_savedBeats {xjk : Int32} {xy2 : Int32} {xy7 : Int32} {xy8 : Int32}  : Ok (fX6_savedBeats xjk xy2 xy7 xy8) (fun _ => True) := by
  unfold fX6_savedBeats
  refine Ok.bind (o_X2_countTiles) (fun x_1 h_x_1 => ?_)
  exact Ok.some trivial
theorem o_X6_mesh {xjr : Int32} {xjk : Int32} {xjc : Int32} {xjg : Int32} {xjs : Int32} {xjaf : Nat → Int32} {xjbf : Nat → Int32} {xwb : Int32} {xwk : Int32} {xzr : Int32} {xzc : Int32} {xoti : Int32} {xobl : Int32} {xobe : Int32} {xose : Int32} {i1 : Int32} (sm_xjr : Sm xjr) (sm_xjk : Sm xjk) (sm_xjc : Sm xjc) : Ok (fX6_mesh xjr xjk xjc xjg xjs xjaf xjbf xwb xwk xzr xzc xoti xobl xobe xose i1) (YS (fun e => e = 0) (fun _ => True)) := by
  unfold fX6_mesh
  refine Ok.ite (fun c1 => ?_) (fun c1 => ?_)
  · exact Ok.some rfl
  · refine Ok.ite (fun c2 => ?_) (fun c2 => ?_)
    · refine Ok.bind (o_X6_meshNumber sm_xjr sm_xjk sm_xjc) (fun x_3 h_x_3 => ?_)
      exact Ok.some trivial
    · exact Ok.some rfl
theorem o_X6_ofCell {xwb : Int32} {xwk : Int32} {xwuf : Nat → Int32} {xwmf : Nat → Int32} {xofr : Int32} {xofc : Int32} {xobt : Int32} {xobl : Int32} {xoy0 : Int32} {xoy1 : Int32} {xoy2 : Int32} {xoy3 : Int32} {xoy4 : Int32} {xoy5 : Int32} {xoy6 : Int32} {i1 : Int32} {i2 : Int32} {i3 : Int32}  : Ok (fX6_ofCell xwb xwk xwuf xwmf xofr xofc xobt xobl xoy0 xoy1 xoy2 xoy3 xoy4 xoy5 xoy6 i1 i2 i3) (YS (fun e => e = 1 ∨ e = 0) (fun _ => True)) := by
  unfold fX6_ofCell
  refine Ok.bind (o_X6_isOnMesh) (fun x_1 h_x_1 => ?_)
  refine Ok.ite (fun c1 => ?_) (fun c1 => ?_)
  · exact Ok.some (Or.inl rfl)
  · refine Ok.ite (fun c2 => ?_) (fun c2 => ?_)
    · exact Ok.some (Or.inr rfl)
    · refine Ok.ite (fun c3 => ?_) (fun c3 => ?_)
      · refine Ok.bind (o_X6_cellNumber) (fun x_8 h_x_8 => ?_)
        exact Ok.some trivial
      · exact Ok.some (Or.inr rfl)
theorem o_X6_result {xzr : Int32} {xzc : Int32} {xzvf : Nat → Int32} {i1 : Int32} {i2 : Int32}  : Ok (fX6_result xzr xzc xzvf i1 i2) (YS (fun e => e = 1) (fun _ => True)) := by
  unfold fX6_result
  refine Ok.bind (o_X3_has) (fun x_1 h_x_1 => ?_)
  refine Ok.ite (fun c1 => ?_) (fun c1 => ?_)
  · exact Ok.some rfl
  · refine Ok.bind (o_X4_get) (fun x_6 h_x_6 => ?_)
    exact Ok.some trivial
theorem o_X6_plain {xjr : Int32} {xjk : Int32} {xjc : Int32} {xjg : Int32} {xjs : Int32} {xjaf : Nat → Int32} {xjbf : Nat → Int32} {i1 : Int32} {i2 : Int32} (sm_xjr : Sm xjr) (sm_xjk : Sm xjk) (sm_xjc : Sm xjc) : Ok (fX6_plain xjr xjk xjc xjg xjs xjaf xjbf i1 i2) (YS (fun e => e = 1) (fun _ => True)) := by
  unfold fX6_plain
  refine Ok.ite (fun c1 => ?_) (fun c1 => ?_)
  · exact Ok.some rfl
  · refine Ok.bind (o_X1_rowsInAll sm_xjr) (fun x_2 h_x_2 => ?_)
    refine Ok.ite (fun c2 => ?_) (fun c2 => ?_)
    · exact Ok.some rfl
    · refine Ok.ite (fun c3 => ?_) (fun c3 => ?_)
      · exact Ok.some rfl
      · refine Ok.bind (o_X1_columnsInAll sm_xjc) (fun x_8 h_x_8 => ?_)
        refine Ok.ite (fun c4 => ?_) (fun c4 => ?_)
        · refine Ok.bind (o_X1_plainOf sm_xjr sm_xjk sm_xjc) (fun x_13 h_x_13 => ?_)
          exact Ok.some trivial
        · exact Ok.some rfl
theorem o_X6_beats {xjr : Int32} {xjk : Int32} {xjc : Int32} {xjg : Int32} {xjs : Int32} {xjaf : Nat → Int32} {xjbf : Nat → Int32} {xwk : Int32} {xt3 : Int32} {xt4 : Int32} {xt5 : Int32} {xt6 : Int32} {xt7 : Int32} {xt8 : Int32} {xt9 : Int32} {i1 : Int32} {i2 : Int32} (sm_xjr : Sm xjr) (sm_xjk : Sm xjk) (sm_xjc : Sm xjc) : Ok (fX6_beats xjr xjk xjc xjg xjs xjaf xjbf xwk xt3 xt4 xt5 xt6 xt7 xt8 xt9 i1 i2) (YS (fun e => e = 0) (fun _ => True)) := by
  unfold fX6_beats
  refine Ok.ite (fun c1 => ?_) (fun c1 => ?_)
  · exact Ok.some rfl
  · refine Ok.ite (fun c2 => ?_) (fun c2 => ?_)
    · exact Ok.some rfl
    · refine Ok.ite (fun c3 => ?_) (fun c3 => ?_)
      · exact Ok.some rfl
      · refine Ok.ite (fun c4 => ?_) (fun c4 => ?_)
        · refine Ok.bind (o_X2_measure sm_xjr sm_xjk sm_xjc) (fun x_5 h_x_5 => ?_)
          refine Ok.bind (o_X6_beatsOn) (fun x_9 h_x_9 => ?_)
          exact Ok.some trivial
        · exact Ok.some rfl
theorem o_X6_best {xjr : Int32} {xjk : Int32} {xjc : Int32} {xjg : Int32} {xjs : Int32} {xjaf : Nat → Int32} {xjbf : Nat → Int32} {xwk : Int32} {xt3 : Int32} {xt4 : Int32} {xt5 : Int32} {xt6 : Int32} {xt7 : Int32} {xt8 : Int32} {xt9 : Int32} {i1 : Int32} (sm_xjr : Sm xjr) (sm_xjk : Sm xjk) (sm_xjc : Sm xjc) : Ok (fX6_best xjr xjk xjc xjg xjs xjaf xjbf xwk xt3 xt4 xt5 xt6 xt7 xt8 xt9 i1) (YS (fun e => e = 0) (fun _ => True)) := by
  unfold fX6_best
  refine Ok.ite (fun c1 => ?_) (fun c1 => ?_)
  · exact Ok.some rfl
  · refine Ok.ite (fun c2 => ?_) (fun c2 => ?_)
    · refine Ok.bind (o_X6_findBest sm_xjr sm_xjk sm_xjc) (fun x_3 h_x_3 => ?_)
      refine Ok.bind (o_X6_bestNumber) (fun x_7 h_x_7 => ?_)
      exact Ok.some trivial
    · exact Ok.some rfl
theorem o_X6_saved {xjr : Int32} {xjk : Int32} {xjc : Int32} {xjg : Int32} {xjs : Int32} {xjaf : Nat → Int32} {xjbf : Nat → Int32} {xwk : Int32} {xt3 : Int32} {xt4 : Int32} {xt5 : Int32} {xt6 : Int32} {xt7 : Int32} {xt8 : Int32} {xt9 : Int32} (sm_xjr : Sm xjr) (sm_xjk : Sm xjk) (sm_xjc : Sm xjc) : Ok (fX6_saved xjr xjk xjc xjg xjs xjaf xjbf xwk xt3 xt4 xt5 xt6 xt7 xt8 xt9) (fun _ => True) := by
  unfold fX6_saved
  refine Ok.bind (o_X6_findBest sm_xjr sm_xjk sm_xjc) (fun x_1 h_x_1 => ?_)
  refine Ok.bind (o_X6_savedBeats) (fun x_5 h_x_5 => ?_)
  exact Ok.some trivial
theorem o_X6_isBestSound {xwk : Int32} {xy3 : Int32} {xy4 : Int32} {xy9 : Int32} {xt0 : Int32} {xt1 : Int32} {xt2 : Int32} {xt3 : Int32} {xt4 : Int32} {xt5 : Int32} {xt6 : Int32} {xt7 : Int32} {xt8 : Int32} {xt9 : Int32}  : Ok (fX6_isBestSound xwk xy3 xy4 xy9 xt0 xt1 xt2 xt3 xt4 xt5 xt6 xt7 xt8 xt9) (fun _ => True) := by
  unfold fX6_isBestSound
  refine Ok.bind (o_X2_isEmpty) (fun x_1 h_x_1 => ?_)
  refine Ok.ite (fun c1 => ?_) (fun c1 => ?_)
  · refine Ok.bind (o_X0_crossKnown) (fun x_27 h_x_27 => ?_)
    refine Ok.ite (fun c2 => ?_) (fun c2 => ?_)
    · refine Ok.bind (Ok.ct (P := fun _ => True) (fun _ => True) (fun s_32 => s_32.1) 32 trivial (show (0 : Int) ≤ Int32.toInt 1 by decide) (by decide) (fun s_32 i_s_32 z_s_32 => ?_)) (fun b_32 h_b_32 => ?_)
      · refine Ok.ite (fun c4 => ?_) (fun c4 => ?_)
        · exact Ok.some trivial
        · refine Ok.bind (Ok.ct (P := fun _ => True) (fun _ => True) (fun s_35 => s_35.1) 32 trivial (show (0 : Int) ≤ Int32.toInt 1 by decide) (by decide) (fun s_35 i_s_35 z_s_35 => ?_)) (fun b_35 h_b_35 => ?_)
          · refine Ok.ite (fun c6 => ?_) (fun c6 => ?_)
            · exact Ok.some trivial
            · refine Ok.bind (o_X6_beatsOn) (fun x_38 h_x_38 => ?_)
              refine Ok.ite (fun c7 => ?_) (fun c7 => ?_)
              · exact Ok.some ⟨yi_nlt c6 (by decide), rfl, trivial⟩
              · refine Ok.bind (o_X2_isEmpty) (fun x_43 h_x_43 => ?_)
                refine Ok.ite (fun c8 => ?_) (fun c8 => ?_)
                · refine Ok.ite (fun c9 => ?_) (fun c9 => ?_)
                  · exact Ok.some ⟨yi_nlt c6 (by decide), rfl, trivial⟩
                  · exact Ok.some trivial
                · exact Ok.some trivial
          refine Ok.br (fun z_35 e_z_35 => ?_) (fun r e_rr => ?_)
          · exact Ok.some ⟨yi_nlt c4 (by decide), rfl, trivial⟩
          · exact Ok.some trivial
      refine Ok.br (fun z_32 e_z_32 => ?_) (fun r e_rr => ?_)
      · exact Ok.some trivial
      · exact Ok.some trivial
    · exact Ok.some trivial
  · refine Ok.bind (Ok.ct (P := fun _ => True) (fun _ => True) (fun s_6 => s_6.1) 32 trivial (show (0 : Int) ≤ Int32.toInt 1 by decide) (by decide) (fun s_6 i_s_6 z_s_6 => ?_)) (fun b_6 h_b_6 => ?_)
    · refine Ok.ite (fun c11 => ?_) (fun c11 => ?_)
      · exact Ok.some trivial
      · refine Ok.bind (Ok.ct (P := fun _ => True) (fun _ => True) (fun s_9 => s_9.1) 32 trivial (show (0 : Int) ≤ Int32.toInt 1 by decide) (by decide) (fun s_9 i_s_9 z_s_9 => ?_)) (fun b_9 h_b_9 => ?_)
        · refine Ok.ite (fun c13 => ?_) (fun c13 => ?_)
          · exact Ok.some trivial
          · refine Ok.bind (o_X6_beatsOn) (fun x_12 h_x_12 => ?_)
            refine Ok.ite (fun c14 => ?_) (fun c14 => ?_)
            · exact Ok.some ⟨yi_nlt c13 (by decide), rfl, trivial⟩
            · refine Ok.bind (o_X2_isEmpty) (fun x_17 h_x_17 => ?_)
              refine Ok.ite (fun c15 => ?_) (fun c15 => ?_)
              · refine Ok.ite (fun c16 => ?_) (fun c16 => ?_)
                · exact Ok.some ⟨yi_nlt c13 (by decide), rfl, trivial⟩
                · exact Ok.some trivial
              · exact Ok.some trivial
        refine Ok.br (fun z_9 e_z_9 => ?_) (fun r e_rr => ?_)
        · exact Ok.some ⟨yi_nlt c11 (by decide), rfl, trivial⟩
        · exact Ok.some trivial
    refine Ok.br (fun z_6 e_z_6 => ?_) (fun r e_rr => ?_)
    · exact Ok.some trivial
    · exact Ok.some trivial
theorem o_X6_doUsesAddUp {xwuf : Nat → Int32} {xofr : Int32} {xofc : Int32} {xobt : Int32} {xobl : Int32} {xotk : Int32} {xoy0 : Int32} {xoy1 : Int32} {xoy2 : Int32} {xoy5 : Int32} {xoy6 : Int32} (up_xoy5 : Up xoy5) (up_xoy6 : Up xoy6) : Ok (fX6_doUsesAddUp xwuf xofr xofc xobt xobl xotk xoy0 xoy1 xoy2 xoy5 xoy6) (fun _ => True) := by
  unfold fX6_doUsesAddUp
  refine Ok.bind (o_X0_sumOfUses) (fun x_1 h_x_1 => ?_)
  refine Ok.bind (o_X5_takenInTile up_xoy5 up_xoy6) (fun x_5 h_x_5 => ?_)
  refine Ok.ite (fun c1 => ?_) (fun c1 => ?_)
  · exact Ok.some trivial
  · exact Ok.some trivial
theorem o_X6_isAllSound {xwb : Int32} {xwk : Int32} {xwuf : Nat → Int32} {xoti : Int32} {xofr : Int32} {xofc : Int32} {xobt : Int32} {xobl : Int32} {xotk : Int32} {xoy0 : Int32} {xoy1 : Int32} {xoy2 : Int32} {xoy5 : Int32} {xoy6 : Int32} {xoy7 : Int32} {xoy8 : Int32} {xy3 : Int32} {xy4 : Int32} {xy9 : Int32} {xt0 : Int32} {xt1 : Int32} {xt2 : Int32} {xt3 : Int32} {xt4 : Int32} {xt5 : Int32} {xt6 : Int32} {xt7 : Int32} {xt8 : Int32} {xt9 : Int32} (up_xoy5 : Up xoy5) (up_xoy6 : Up xoy6) : Ok (fX6_isAllSound xwb xwk xwuf xoti xofr xofc xobt xobl xotk xoy0 xoy1 xoy2 xoy5 xoy6 xoy7 xoy8 xy3 xy4 xy9 xt0 xt1 xt2 xt3 xt4 xt5 xt6 xt7 xt8 xt9) (fun r => Bo r.1) := by
  unfold fX6_isAllSound
  refine Ok.bind (o_X6_isBestSound) (fun x_1 h_x_1 => ?_)
  refine Ok.ite (fun c1 => ?_) (fun c1 => ?_)
  · exact Ok.some (Or.inl rfl)
  · refine Ok.bind (o_X0_areKnownBroken) (fun x_6 h_x_6 => ?_)
    refine Ok.ite (fun c2 => ?_) (fun c2 => ?_)
    · exact Ok.some (Or.inl rfl)
    · refine Ok.bind (o_X6_doUsesAddUp up_xoy5 up_xoy6) (fun x_11 h_x_11 => ?_)
      refine Ok.ite (fun c3 => ?_) (fun c3 => ?_)
      · exact Ok.some (Or.inl rfl)
      · refine Ok.bind (o_X5_isUnfinished) (fun x_16 h_x_16 => ?_)
        refine Ok.ite (fun c4 => ?_) (fun c4 => ?_)
        · exact Ok.some (Or.inl rfl)
        · exact Ok.some (Or.inr rfl)
theorem o_X6_isSound {xjr : Int32} {xjk : Int32} {xjc : Int32} {xjg : Int32} {xjs : Int32} {xjaf : Nat → Int32} {xjbf : Nat → Int32} {xwb : Int32} {xwk : Int32} {xwuf : Nat → Int32} {xoti : Int32} {xofr : Int32} {xofc : Int32} {xobt : Int32} {xobl : Int32} {xotk : Int32} {xoy0 : Int32} {xoy1 : Int32} {xoy2 : Int32} {xoy5 : Int32} {xoy6 : Int32} {xoy7 : Int32} {xoy8 : Int32} {xt3 : Int32} {xt4 : Int32} {xt5 : Int32} {xt6 : Int32} {xt7 : Int32} {xt8 : Int32} {xt9 : Int32} (sm_xjr : Sm xjr) (sm_xjk : Sm xjk) (sm_xjc : Sm xjc) (up_xoy5 : Up xoy5) (up_xoy6 : Up xoy6) : Ok (fX6_isSound xjr xjk xjc xjg xjs xjaf xjbf xwb xwk xwuf xoti xofr xofc xobt xobl xotk xoy0 xoy1 xoy2 xoy5 xoy6 xoy7 xoy8 xt3 xt4 xt5 xt6 xt7 xt8 xt9) (fun _ => True) := by
  unfold fX6_isSound
  refine Ok.bind (o_X6_findBest sm_xjr sm_xjk sm_xjc) (fun x_1 h_x_1 => ?_)
  refine Ok.bind (o_X6_isAllSound up_xoy5 up_xoy6) (fun x_5 h_x_5 => ?_)
  refine Ok.grd h_x_5 ?_
  exact Ok.some trivial
theorem o_X6_mix {i1 : Int64} {i2 : Int32}  : Ok (fX6_mix i1 i2) (fun _ => True) := by
  unfold fX6_mix
  exact Ok.some trivial
theorem o_X6_mixCells {xwb : Int32} {xwk : Int32} {xwuf : Nat → Int32} {xwmf : Nat → Int32} {xofr : Int32} {xofc : Int32} {xobt : Int32} {xobl : Int32} {xoy0 : Int32} {xoy1 : Int32} {xoy2 : Int32} {xoy3 : Int32} {xoy4 : Int32} {xoy5 : Int32} {xoy6 : Int32} {i1 : Int64}  : Ok (fX6_mixCells xwb xwk xwuf xwmf xofr xofc xobt xobl xoy0 xoy1 xoy2 xoy3 xoy4 xoy5 xoy6 i1) (fun _ => True) := by
  unfold fX6_mixCells
  refine Ok.bind (Ok.ct (P := fun _ => True) (fun _ => True) (fun s_1 => s_1.2) 5 trivial (show (0 : Int) ≤ Int32.toInt 0 by decide) (by decide) (fun s_1 i_s_1 z_s_1 => ?_)) (fun b_1 h_b_1 => ?_)
  · refine Ok.ite (fun c2 => ?_) (fun c2 => ?_)
    · exact Ok.some trivial
    · refine Ok.bind (Ok.ct (P := fun _ => True) (fun _ => True) (fun s_4 => s_4.2) 5 trivial (show (0 : Int) ≤ Int32.toInt 0 by decide) (by decide) (fun s_4 i_s_4 z_s_4 => ?_)) (fun b_4 h_b_4 => ?_)
      · refine Ok.ite (fun c4 => ?_) (fun c4 => ?_)
        · exact Ok.some trivial
        · refine Ok.bind (Ok.ct (P := fun _ => True) (fun _ => True) (fun s_7 => s_7.2) 4 trivial (show (0 : Int) ≤ Int32.toInt 0 by decide) (by decide) (fun s_7 i_s_7 z_s_7 => ?_)) (fun b_7 h_b_7 => ?_)
          · refine Ok.ite (fun c6 => ?_) (fun c6 => ?_)
            · exact Ok.some trivial
            · refine Ok.bind (o_X6_cellNumber) (fun x_10 h_x_10 => ?_)
              refine Ok.bind (o_X6_mix) (fun x_14 h_x_14 => ?_)
              exact Ok.some ⟨yi_nlt c6 (by decide), rfl, trivial⟩
          exact Ok.some ⟨yi_nle c4 (by decide), rfl, trivial⟩
      exact Ok.some ⟨yi_nle c2 (by decide), rfl, trivial⟩
  exact Ok.some trivial
theorem o_X6_mixResults {xzr : Int32} {xzc : Int32} {xzvf : Nat → Int32} {i1 : Int64} (sm_xzr : Sm xzr) (sm_xzc : Sm xzc) : Ok (fX6_mixResults xzr xzc xzvf i1) (fun _ => True) := by
  unfold fX6_mixResults
  refine Ok.bind (Ok.ct (P := fun _ => True) (fun _ => True) (fun s_1 => s_1.2) xzr.toInt trivial (show (0 : Int) ≤ Int32.toInt 0 by decide) (by have := sm_xzr; omega) (fun s_1 i_s_1 z_s_1 => ?_)) (fun b_1 h_b_1 => ?_)
  · refine Ok.ite (fun c2 => ?_) (fun c2 => ?_)
    · exact Ok.some trivial
    · refine Ok.bind (Ok.ct (P := fun _ => True) (fun _ => True) (fun s_4 => s_4.2) xzc.toInt trivial (show (0 : Int) ≤ Int32.toInt 0 by decide) (by have := sm_xzc; omega) (fun s_4 i_s_4 z_s_4 => ?_)) (fun b_4 h_b_4 => ?_)
      · refine Ok.ite (fun c4 => ?_) (fun c4 => ?_)
        · exact Ok.some trivial
        · refine Ok.bind (o_X4_get) (fun x_7 h_x_7 => ?_)
          refine Ok.bind (o_X6_mix) (fun x_11 h_x_11 => ?_)
          exact Ok.some ⟨yi_nle c4 (Int.le_refl _), rfl, trivial⟩
      exact Ok.some ⟨yi_nle c2 (Int.le_refl _), rfl, trivial⟩
  exact Ok.some trivial
theorem o_X6_mixPlain {xjr : Int32} {xjk : Int32} {xjc : Int32} {xjg : Int32} {xjs : Int32} {xjaf : Nat → Int32} {xjbf : Nat → Int32} {i1 : Int64} (sm_xjr : Sm xjr) (sm_xjk : Sm xjk) (sm_xjc : Sm xjc) : Ok (fX6_mixPlain xjr xjk xjc xjg xjs xjaf xjbf i1) (fun _ => True) := by
  unfold fX6_mixPlain
  refine Ok.bind (Ok.ct (P := fun _ => True) (fun _ => True) (fun s_1 => s_1.2) 200 trivial (show (0 : Int) ≤ Int32.toInt 0 by decide) (by decide) (fun s_1 i_s_1 z_s_1 => ?_)) (fun b_1 h_b_1 => ?_)
  · refine Ok.bind (o_X1_rowsInAll sm_xjr) (fun x_2 h_x_2 => ?_)
    refine Ok.ite (fun c2 => ?_) (fun c2 => ?_)
    · exact Ok.some trivial
    · refine Ok.bind (Ok.ct (P := fun _ => True) (fun _ => True) (fun s_8 => s_8.2) 200 trivial (show (0 : Int) ≤ Int32.toInt 0 by decide) (by decide) (fun s_8 i_s_8 z_s_8 => ?_)) (fun b_8 h_b_8 => ?_)
      · refine Ok.bind (o_X1_columnsInAll sm_xjc) (fun x_9 h_x_9 => ?_)
        refine Ok.ite (fun c4 => ?_) (fun c4 => ?_)
        · exact Ok.some trivial
        · refine Ok.bind (o_X1_plainOf sm_xjr sm_xjk sm_xjc) (fun x_15 h_x_15 => ?_)
          refine Ok.bind (o_X6_mix) (fun x_19 h_x_19 => ?_)
          exact Ok.some ⟨yi_nle c4 (by first | exact h_x_9 | omega), rfl, trivial⟩
      exact Ok.some ⟨yi_nle c2 (by first | exact h_x_2 | omega), rfl, trivial⟩
  exact Ok.some trivial
theorem o_X6_digest {xjr : Int32} {xjk : Int32} {xjc : Int32} {xjg : Int32} {xjs : Int32} {xjaf : Nat → Int32} {xjbf : Nat → Int32} {xwb : Int32} {xwk : Int32} {xwuf : Nat → Int32} {xwmf : Nat → Int32} {xzr : Int32} {xzc : Int32} {xzvf : Nat → Int32} {xoti : Int32} {xofr : Int32} {xofc : Int32} {xobt : Int32} {xobl : Int32} {xobe : Int32} {xose : Int32} {xotk : Int32} {xoy0 : Int32} {xoy1 : Int32} {xoy2 : Int32} {xoy3 : Int32} {xoy4 : Int32} {xoy5 : Int32} {xoy6 : Int32} {xoy7 : Int32} {xoy8 : Int32} {xt3 : Int32} {xt4 : Int32} {xt5 : Int32} {xt6 : Int32} {xt7 : Int32} {xt8 : Int32} {xt9 : Int32} (sm_xjr : Sm xjr) (sm_xjk : Sm xjk) (sm_xjc : Sm xjc) (sm_xzr : Sm xzr) (sm_xzc : Sm xzc) (up_xoy5 : Up xoy5) (up_xoy6 : Up xoy6) : Ok (fX6_digest xjr xjk xjc xjg xjs xjaf xjbf xwb xwk xwuf xwmf xzr xzc xzvf xoti xofr xofc xobt xobl xobe xose xotk xoy0 xoy1 xoy2 xoy3 xoy4 xoy5 xoy6 xoy7 xoy8 xt3 xt4 xt5 xt6 xt7 xt8 xt9) (fun _ => True) := by
  unfold fX6_digest
  refine Ok.bind (o_X6_findBest sm_xjr sm_xjk sm_xjc) (fun x_1 h_x_1 => ?_)
  refine Ok.bind (Ok.ct (P := fun _ => True) (fun _ => True) (fun s_5 => s_5.2) 16 trivial (show (0 : Int) ≤ Int32.toInt 0 by decide) (by decide) (fun s_5 i_s_5 z_s_5 => ?_)) (fun b_5 h_b_5 => ?_)
  · refine Ok.ite (fun c2 => ?_) (fun c2 => ?_)
    · exact Ok.some trivial
    · refine Ok.bind (o_X6_meshNumber sm_xjr sm_xjk sm_xjc) (fun x_52 h_x_52 => ?_)
      refine Ok.bind (o_X6_mix) (fun x_56 h_x_56 => ?_)
      exact Ok.some ⟨yi_nlt c2 (by decide), rfl, trivial⟩
  refine Ok.bind (o_X6_mixCells) (fun x_6 h_x_6 => ?_)
  refine Ok.bind (o_X6_mixResults sm_xzr sm_xzc) (fun x_10 h_x_10 => ?_)
  refine Ok.bind (o_X6_mixPlain sm_xjr sm_xjk sm_xjc) (fun x_14 h_x_14 => ?_)
  refine Ok.bind (Ok.ct (P := fun _ => True) (fun _ => True) (fun s_18 => s_18.2) 5 trivial (show (0 : Int) ≤ Int32.toInt 0 by decide) (by decide) (fun s_18 i_s_18 z_s_18 => ?_)) (fun b_18 h_b_18 => ?_)
  · refine Ok.ite (fun c4 => ?_) (fun c4 => ?_)
    · exact Ok.some trivial
    · refine Ok.bind (o_X6_bestNumber) (fun x_42 h_x_42 => ?_)
      refine Ok.bind (o_X6_mix) (fun x_46 h_x_46 => ?_)
      exact Ok.some ⟨yi_nlt c4 (by decide), rfl, trivial⟩
  refine Ok.bind (o_X6_savedBeats) (fun x_19 h_x_19 => ?_)
  refine Ok.bind (o_X6_mix) (fun x_23 h_x_23 => ?_)
  refine Ok.bind (o_X6_isAllSound up_xoy5 up_xoy6) (fun x_27 h_x_27 => ?_)
  refine Ok.ite (fun c5 => ?_) (fun c5 => ?_)
  · refine Ok.bind (o_X6_mix) (fun x_32 h_x_32 => ?_)
    exact Ok.some trivial
  · refine Ok.bind (o_X6_mix) (fun x_36 h_x_36 => ?_)
    exact Ok.some trivial
