def yDf (B K : Nat → Nat → Int32) : Nat → Nat → Int32 := fun i j => if K i j = 0 then B i j else 0
theorem yFlag_df {wb wk : Int32} {B K : Nat → Nat → Int32} (hB : yFlag wb B) (hK : yFlag wk K) : yFlag (wb &&& (wk ^^^ (-1))) (yDf B K) := by
  intro q hq
  rw [yBB_and, yBB_not _ _ hq, hB q hq, hK q hq]
  unfold yDf
  by_cases c : q < 25
  · rw [decide_eq_true c, Bool.true_and, Bool.true_and, Bool.true_and]
    by_cases h : K (q / 5) (q % 5) = 0
    · rw [if_pos h, decide_eq_true h]
      simp
    · rw [if_neg h, decide_eq_false h]
      simp
  · rw [decide_eq_false c, Bool.false_and, Bool.false_and, Bool.false_and]
