/-! ===== results and checks ===== -/
def yHas (Rn Rk : Nat) (i1 i2 : Int32) : Bool := yIn i1 0 ((Rn : Int) - 1) && yIn i2 0 ((Rk : Int) - 1)
theorem yHas_of {Rn Rk : Nat} {i1 i2 : Int32} (h : yHas Rn Rk i1 i2 = true) : ∃ i j, i < Rn ∧ j < Rk ∧ i1 = nI i ∧ i2 = nI j := by
  unfold yHas at h
  rw [Bool.and_eq_true] at h
  have h1 := yIn_of h.1
  have h2 := yIn_of h.2
  exact ⟨i1.toInt.toNat, i2.toInt.toNat, by omega, by omega, nj_to (by omega), nj_to (by omega)⟩
theorem yI999 : Int32.toInt 999 = 999 := by decide
theorem yIm999 : Int32.toInt (-999) = -999 := by decide
theorem upg_v (G : Nat → Nat → Int32) (i j : Nat) (v : Int32) : upg G i j v i j = v := by
  unfold upg upd
  rw [if_pos rfl, if_pos rfl]
theorem e_noResult_i {Rn Rk : Nat} {i1 i2 : Int32} (h1 : Rn ≤ 9) (h2 : Rk ≤ 9) : fX9_isNoResult_i Rn Rk i1 i2 = some (yb !yHas Rn Rk i1 i2) := by
  obtain ⟨x, hx, hp⟩ := o_X9_isNoResult_i (i1 := i1) (i2 := i2) h1 h2
  rw [hx]
  unfold yHas yIn
  rcases hp with ⟨rfl, a, b⟩ | ⟨rfl, a⟩
  · rw [decide_eq_true (show 0 ≤ i1.toInt ∧ i1.toInt ≤ (Rn : Int) - 1 by omega), decide_eq_true (show 0 ≤ i2.toInt ∧ i2.toInt ≤ (Rk : Int) - 1 by omega)]
    rfl
  · by_cases c1 : 0 ≤ i1.toInt ∧ i1.toInt ≤ (Rn : Int) - 1
    · rw [decide_eq_true c1, decide_eq_false (show ¬ (0 ≤ i2.toInt ∧ i2.toInt ≤ (Rk : Int) - 1) by omega)]
      rfl
    · rw [decide_eq_false c1]
      rfl
theorem e_result_i {Rn Rk : Nat} {R : Nat → Nat → Int32} {i1 i2 : Int32} (h1 : Rn ≤ 9) (h2 : Rk ≤ 9) : fX9_result_i Rn Rk R i1 i2 = some (if yHas Rn Rk i1 i2 = true then (R i1.toNatClampNeg i2.toNatClampNeg, 0) else (0, 1)) := by
  unfold fX9_result_i
  refine bto (e_noResult_i h1 h2) ?_
  refine bto (e_start_i (by decide)) ?_
  cases e : yHas Rn Rk i1 i2
  · rfl
  · obtain ⟨i, j, a, b, rfl, rfl⟩ := yHas_of e
    refine (if_pos rfl).trans ?_
    refine (if_pos (nj_in a (by omega))).trans ?_
    exact (if_pos (nj_in b (by omega))).trans rfl
theorem e_bend_i {Rn Rk : Nat} {R : Nat → Nat → Int32} {i1 i2 i3 : Int32} (h1 : Rn ≤ 9) (h2 : Rk ≤ 9) : fX9_bend_i Rn Rk R i1 i2 i3 = some (if yHas Rn Rk i1 i2 = true then (if yIn i3 (-999) 999 = true then (R i1.toNatClampNeg i2.toNatClampNeg + i3, 0, upg R i1.toNatClampNeg i2.toNatClampNeg (R i1.toNatClampNeg i2.toNatClampNeg + i3)) else (0, 2, R)) else (0, 1, R)) := by
  unfold fX9_bend_i
  refine bto (e_noResult_i h1 h2) ?_
  refine bto (e_start_i (by decide)) ?_
  cases e : yHas Rn Rk i1 i2
  · rfl
  · obtain ⟨i, j, a, b, rfl, rfl⟩ := yHas_of e
    refine (if_pos rfl).trans ?_
    refine bto e_isIn ?_
    rw [yIm999, yI999, yb_not]
    refine bto rfl ?_
    refine bto (e_refuse_i (by decide)) ?_
    cases yIn i3 (-999) 999
    · rfl
    · refine (if_pos rfl).trans ?_
      refine (if_pos (nj_in a (by omega))).trans ?_
      refine (if_pos (nj_in b (by omega))).trans ?_
      refine (if_pos (nj_in b (by omega))).trans ?_
      refine (if_pos (nj_in a (by omega))).trans ?_
      refine (if_pos (nj_in b (by omega))).trans ?_
      rw [upg_v]
      rfl
theorem e_noResult_r {Rn Rk : Nat} {i1 i2 : Int32} (h1 : Rn ≤ 9) (h2 : Rk ≤ 9) : fX9_isNoResult_r Rn Rk i1 i2 = some (yb !yHas Rn Rk i1 i2) := by
  obtain ⟨x, hx, hp⟩ := o_X9_isNoResult_r (i1 := i1) (i2 := i2) h1 h2
  rw [hx]
  unfold yHas yIn
  rcases hp with ⟨rfl, a, b⟩ | ⟨rfl, a⟩
  · rw [decide_eq_true (show 0 ≤ i1.toInt ∧ i1.toInt ≤ (Rn : Int) - 1 by omega), decide_eq_true (show 0 ≤ i2.toInt ∧ i2.toInt ≤ (Rk : Int) - 1 by omega)]
    rfl
  · by_cases c1 : 0 ≤ i1.toInt ∧ i1.toInt ≤ (Rn : Int) - 1
    · rw [decide_eq_true c1, decide_eq_false (show ¬ (0 ≤ i2.toInt ∧ i2.toInt ≤ (Rk : Int) - 1) by omega)]
      rfl
    · rw [decide_eq_false c1]
      rfl
theorem e_result_r {Rn Rk : Nat} {R : Nat → Nat → Int32} {i1 i2 : Int32} (h1 : Rn ≤ 9) (h2 : Rk ≤ 9) : fX9_result_r Rn Rk R i1 i2 = some (if yHas Rn Rk i1 i2 = true then (R i1.toNatClampNeg i2.toNatClampNeg, 0) else (0, 1)) := by
  unfold fX9_result_r
  refine bto (e_noResult_r h1 h2) ?_
  refine bto (e_start_r (by decide)) ?_
  cases e : yHas Rn Rk i1 i2
  · rfl
  · obtain ⟨i, j, a, b, rfl, rfl⟩ := yHas_of e
    refine (if_pos rfl).trans ?_
    refine (if_pos (nj_in a (by omega))).trans ?_
    exact (if_pos (nj_in b (by omega))).trans rfl
theorem e_bend_r {Rn Rk : Nat} {R : Nat → Nat → Int32} {i1 i2 i3 : Int32} (h1 : Rn ≤ 9) (h2 : Rk ≤ 9) : fX9_bend_r Rn Rk R i1 i2 i3 = some (if yHas Rn Rk i1 i2 = true then (if yIn i3 (-999) 999 = true then (R i1.toNatClampNeg i2.toNatClampNeg + i3, 0, upg R i1.toNatClampNeg i2.toNatClampNeg (R i1.toNatClampNeg i2.toNatClampNeg + i3)) else (0, 2, R)) else (0, 1, R)) := by
  unfold fX9_bend_r
  refine bto (e_noResult_r h1 h2) ?_
  refine bto (e_start_r (by decide)) ?_
  cases e : yHas Rn Rk i1 i2
  · rfl
  · obtain ⟨i, j, a, b, rfl, rfl⟩ := yHas_of e
    refine (if_pos rfl).trans ?_
    refine bto e_isIn ?_
    rw [yIm999, yI999, yb_not]
    refine bto rfl ?_
    refine bto (e_refuse_r (by decide)) ?_
    cases yIn i3 (-999) 999
    · rfl
    · refine (if_pos rfl).trans ?_
      refine (if_pos (nj_in a (by omega))).trans ?_
      refine (if_pos (nj_in b (by omega))).trans ?_
      refine (if_pos (nj_in b (by omega))).trans ?_
      refine (if_pos (nj_in a (by omega))).trans ?_
      refine (if_pos (nj_in b (by omega))).trans ?_
      rw [upg_v]
      rfl
theorem c_has {Rn Rk : Nat} {i1 i2 : Int32} (h1 : Rn ≤ 9) (h2 : Rk ≤ 9) : fX3_has (nI Rn) (nI Rk) i1 i2 = some (yb (yHas Rn Rk i1 i2)) := by
  have f1 := yi_nI (n := Rn) (by omega)
  have f2 := yi_nI (n := Rk) (by omega)
  unfold fX3_has yHas yIn
  by_cases c1 : i1 < 0
  · rw [if_pos c1]
    rw [yi_lt, yI0] at c1
    rw [decide_eq_false (show ¬ (0 ≤ i1.toInt ∧ i1.toInt ≤ (Rn : Int) - 1) by omega)]
    rfl
  rw [if_neg c1]
  rw [yi_lt, yI0] at c1
  by_cases c2 : nI Rn ≤ i1
  · rw [if_pos c2]
    rw [yi_le, f1] at c2
    rw [decide_eq_false (show ¬ (0 ≤ i1.toInt ∧ i1.toInt ≤ (Rn : Int) - 1) by omega)]
    rfl
  rw [if_neg c2]
  rw [yi_le, f1] at c2
  rw [decide_eq_true (show 0 ≤ i1.toInt ∧ i1.toInt ≤ (Rn : Int) - 1 by omega), Bool.true_and]
  by_cases c3 : i2 < 0
  · rw [if_pos c3]
    rw [yi_lt, yI0] at c3
    rw [decide_eq_false (show ¬ (0 ≤ i2.toInt ∧ i2.toInt ≤ (Rk : Int) - 1) by omega)]
    rfl
  rw [if_neg c3]
  rw [yi_lt, yI0] at c3
  by_cases c4 : nI Rk ≤ i2
  · rw [if_pos c4]
    rw [yi_le, f2] at c4
    rw [decide_eq_false (show ¬ (0 ≤ i2.toInt ∧ i2.toInt ≤ (Rk : Int) - 1) by omega)]
    rfl
  · rw [if_neg c4]
    rw [yi_le, f2] at c4
    rw [decide_eq_true (show 0 ≤ i2.toInt ∧ i2.toInt ≤ (Rk : Int) - 1 by omega)]
    rfl
theorem c_result {Rn Rk : Nat} {v : Nat → Int32} {R : Nat → Nat → Int32} {i1 i2 : Int32} (h1 : Rn ≤ 9) (h2 : Rk ≤ 9) (hv : yTq Rn Rk v R) : fX6_result (nI Rn) (nI Rk) v i1 i2 = some (if yHas Rn Rk i1 i2 = true then .inr (R i1.toNatClampNeg i2.toNatClampNeg) else .inl 1) := by
  unfold fX6_result
  refine bto (c_has h1 h2) ?_
  cases e : yHas Rn Rk i1 i2
  · rfl
  · obtain ⟨i, j, a, b, rfl, rfl⟩ := yHas_of e
    refine (if_neg (by decide)).trans ?_
    refine bto (e_get (by omega) (by omega)) ?_
    rw [hv i j a b, nj_cl (by omega), nj_cl (by omega)]
    rfl
theorem c_bend {Rn Rk : Nat} {v : Nat → Int32} {R : Nat → Nat → Int32} {i1 i2 i3 : Int32} (h1 : Rn ≤ 9) (h2 : Rk ≤ 9) (hv : yTq Rn Rk v R) : fX6_bend (nI Rn) (nI Rk) v i1 i2 i3 = some (if yHas Rn Rk i1 i2 = true then (if yIn i3 (-999) 999 = true then .inr (R i1.toNatClampNeg i2.toNatClampNeg + i3, upd v (i1.toNatClampNeg * 9 + i2.toNatClampNeg) (R i1.toNatClampNeg i2.toNatClampNeg + i3)) else .inl 0) else .inl 1) := by
  unfold fX6_bend
  refine bto (c_has h1 h2) ?_
  cases e : yHas Rn Rk i1 i2
  · rfl
  · obtain ⟨i, j, a, b, rfl, rfl⟩ := yHas_of e
    refine (if_neg (by decide)).trans ?_
    rw [if_pos rfl]
    unfold yIn
    by_cases c1 : i3 < (-999)
    · refine (if_pos c1).trans ?_
      rw [yi_lt, yIm999] at c1
      rw [decide_eq_false (show ¬ (-999 ≤ i3.toInt ∧ i3.toInt ≤ 999) by omega)]
      rfl
    refine (if_neg c1).trans ?_
    rw [yi_lt, yIm999] at c1
    by_cases c2 : i3 ≤ 999
    · refine (if_pos c2).trans ?_
      rw [yi_le, yI999] at c2
      rw [decide_eq_true (show -999 ≤ i3.toInt ∧ i3.toInt ≤ 999 by omega)]
      refine bto (e_get (by omega) (by omega)) ?_
      refine bto (e_set (by omega) (by omega)) ?_
      rw [hv i j a b, nj_cl (by omega), nj_cl (by omega)]
      rfl
    · refine (if_neg c2).trans ?_
      rw [yi_le, yI999] at c2
      rw [decide_eq_false (show ¬ (-999 ≤ i3.toInt ∧ i3.toInt ≤ 999) by omega)]
      rfl
theorem yTq_up {a b : Nat} {f : Nat → Int32} {G : Nat → Nat → Int32} {i j : Nat} {x : Int32} (h : yTq a b f G) (ha : b ≤ 9) (hi : i < a) (hj : j < b) : yTq a b (upd f (i * 9 + j) x) (upg G i j x) := by
  intro p q hp hq
  unfold upg upd
  by_cases h1 : p = i
  · by_cases h2 : q = j
    · rw [if_pos (by rw [h1, h2]), if_pos h1, if_pos h2]
    · rw [if_neg (by omega), if_pos h1, if_neg h2, h p q hp hq, h1]
  · rw [if_neg (by omega), if_neg h1]
    exact h p q hp hq
/-- how much the others of a line are together more than the last -/
def yErr (n : Nat) (f : Nat → Int32) : Int32 := -(f (n - 1)) + ySum (n - 1) f
theorem c_rowError {Rn Rk i : Nat} {v : Nat → Int32} {R : Nat → Nat → Int32} (h1 : Rn ≤ 9) (h2 : Rk ≤ 9) (hv : yTq Rn Rk v R) (hi : i < Rn) (hk : 1 ≤ Rk) : fX3_rowError (nI Rk) v (nI i) = some (yErr Rk (fun j => R i j)) := by
  unfold fX3_rowError
  rw [li1, nj_sub hk]
  refine bto (e_get (by omega) (by omega)) ?_
  rw [hv i (Rk - 1) hi (by omega)]
  refine bto (wl_eq (fun m => (-(R i (Rk - 1)) + ySum m (fun j => R i j), nI m)) 0 (Rk - 1) (b := (yErr Rk (fun j => R i j), nI (Rk - 1))) ?_ (Nat.zero_le _) (by omega) (fun m _ hm => ?_) ?_) rfl
  · show (-(R i (Rk - 1)), nI 0) = (-(R i (Rk - 1)) + 0, nI 0)
    rw [Int32.add_zero]
  · refine (if_neg (fun z => by rw [nj_le (by omega) (by omega)] at z; omega)).trans ?_
    refine bto (e_get (by omega) (by omega)) ?_
    rw [hv i m hi (by omega), Int32.add_assoc]
    show some (Sum.inl (_, nI m + 1)) = _
    rw [nj_p1]
    rfl
  · exact if_pos (Int32.le_refl _)
theorem c_columnError {Rn Rk i : Nat} {v : Nat → Int32} {R : Nat → Nat → Int32} (h1 : Rn ≤ 9) (h2 : Rk ≤ 9) (hv : yTq Rn Rk v R) (hi : i < Rk) (hk : 1 ≤ Rn) : fX3_columnError (nI Rn) v (nI i) = some (yErr Rn (fun j => R j i)) := by
  unfold fX3_columnError
  rw [li1, nj_sub hk]
  refine bto (e_get (by omega) (by omega)) ?_
  rw [hv (Rn - 1) i (by omega) hi]
  refine bto (wl_eq (fun m => (-(R (Rn - 1) i) + ySum m (fun j => R j i), nI m)) 0 (Rn - 1) (b := (yErr Rn (fun j => R j i), nI (Rn - 1))) ?_ (Nat.zero_le _) (by omega) (fun m _ hm => ?_) ?_) rfl
  · show (-(R (Rn - 1) i), nI 0) = (-(R (Rn - 1) i) + 0, nI 0)
    rw [Int32.add_zero]
  · refine (if_neg (fun z => by rw [nj_le (by omega) (by omega)] at z; omega)).trans ?_
    refine bto (e_get (by omega) (by omega)) ?_
    rw [hv m i (by omega) hi, Int32.add_assoc]
    show some (Sum.inl (_, nI m + 1)) = _
    rw [nj_p1]
    rfl
  · exact if_pos (Int32.le_refl _)
def yLast (n : Nat) (p : Nat → Bool) : Nat := yFold n (fun k x => if p k = true then k else x) 0
theorem yLast_lt {n : Nat} {p : Nat → Bool} (h : 1 ≤ yCnt n p) : yLast n p < n := by
  induction n with
  | zero => exact absurd (show 1 ≤ 0 from h) (by decide)
  | succ n ih =>
    have h : 1 ≤ yCnt n p + (if p n = true then 1 else 0) := h
    show (if p n = true then n else yLast n p) < n + 1
    by_cases e : p n = true
    · rw [if_pos e]
      omega
    · rw [if_neg e]
      rw [if_neg e] at h
      have := ih (by omega)
      omega
theorem yCnt_s (n : Nat) (p : Nat → Bool) : yCnt (n + 1) p = yCnt n p + (if p n = true then 1 else 0) := rfl
theorem yLast_s (n : Nat) (p : Nat → Bool) : yLast (n + 1) p = if p n = true then n else yLast n p := rfl
def yLw (n : Nat) (p : Nat → Bool) : Int32 := if yCnt n p = 0 then -1 else nI (yLast n p)
theorem yLw_s (n : Nat) (p : Nat → Bool) : yLw (n + 1) p = if p n = true then nI n else yLw n p := by
  unfold yLw
  rw [yCnt_s, yLast_s]
  by_cases e : p n = true
  · rw [if_pos e, if_pos e, if_pos e, if_neg (by omega)]
  · rw [if_neg e, if_neg e, if_neg e, Nat.add_zero]
/-- errors of rows and columns -/
def yRw (Rk : Nat) (R : Nat → Nat → Int32) (i : Nat) : Bool := !decide (yErr Rk (fun j => R i j) = 0)
def yCw (Rn : Nat) (R : Nat → Nat → Int32) (j : Nat) : Bool := !decide (yErr Rn (fun i => R i j) = 0)
def yRowD (Rn Rk : Nat) (R : Nat → Nat → Int32) (i j : Nat) : Int32 := if j = Rk - 1 then yErr Rk (fun j => R i j) else -(yErr Rk (fun j => R i j))
def yColD (Rn Rk : Nat) (R : Nat → Nat → Int32) (i j : Nat) : Int32 := if i = Rn - 1 then yErr Rn (fun i => R i j) else -(yErr Rn (fun i => R i j))
def yJr (Rn Rk : Nat) (R : Nat → Nat → Int32) : Nat := yLast Rn (yRw Rk R)
def yJc (Rn Rk : Nat) (R : Nat → Nat → Int32) : Nat := yLast Rk (yCw Rn R)
def yVerd (Rn Rk : Nat) (R : Nat → Nat → Int32) : Nat := if yCnt Rn (yRw Rk R) = 0 ∧ yCnt Rk (yCw Rn R) = 0 then 0 else if yCnt Rn (yRw Rk R) = 1 ∧ yCnt Rk (yCw Rn R) = 1 ∧ yRowD Rn Rk R (yJr Rn Rk R) (yJc Rn Rk R) = yColD Rn Rk R (yJr Rn Rk R) (yJc Rn Rk R) then 1 else 2
theorem sub_neg' (a b : Int32) : a - b = a + -b := Int32.sub_eq_add_neg a b
theorem add_left' {a b c : Int32} : (a + b = a + c) = (b = c) := propext ⟨fun h => by
  have e : a + b - a = a + c - a := congrArg (fun z => z - a) h
  rw [Int32.add_comm a b, Int32.add_comm a c, Int32.add_sub_cancel, Int32.add_sub_cancel] at e
  exact e, fun h => by rw [h]⟩
theorem ng0 {a : Int32} (h : -a = 0) : a = 0 := by
  have e : - -a = -(0 : Int32) := congrArg (fun z => -z) h
  rw [Int32.neg_neg] at e
  rw [e]
  rfl
theorem ng1 (a s : Int32) : -s + a = -(-a + s) := by
  rw [Int32.neg_add, Int32.neg_neg, Int32.sub_eq_add_neg, Int32.add_comm]
theorem ng2 (a b : Int32) : -a + -b = -(a + b) := by
  rw [Int32.neg_add, Int32.sub_eq_add_neg]
theorem c_mend {Rn Rk i j : Nat} {v : Nat → Int32} {R : Nat → Nat → Int32} (h1 : Rn ≤ 9) (h2 : Rk ≤ 9) (hv : yTq Rn Rk v R) (hi : i < Rn) (hj : j < Rk) : fX3_mend (nI Rn) (nI Rk) v (nI i) (nI j) = some (if yRowD Rn Rk R i j = yColD Rn Rk R i j then (1, upd v (i * 9 + j) (R i j + yRowD Rn Rk R i j)) else (2, v)) := by
  unfold fX3_mend
  refine bto (e_get (by omega) (by omega)) ?_
  rw [hv i j hi hj]
  have e1 : (((if nI j = (nI Rk - 1) then ((fX3_rowError (nI Rk) v (nI i)).bind fun x_47 => some (R i j + x_47)) else ((fX3_rowError (nI Rk) v (nI i)).bind fun x_42 => some (R i j - x_42))) : Option (Int32))) = some (R i j + yRowD Rn Rk R i j) := by
    unfold yRowD
    rw [li1, nj_sub (by omega)]
    by_cases c : j = Rk - 1
    · rw [if_pos c]
      refine (if_pos (congrArg nI c)).trans ?_
      exact bto (c_rowError h1 h2 hv hi (by omega)) rfl
    · rw [if_neg c]
      refine (if_neg (fun z => c ((nj_eq (by omega) (by omega)).mp z))).trans ?_
      refine bto (c_rowError h1 h2 hv hi (by omega)) ?_
      rw [sub_neg']
  have e2 : (((if nI i = (nI Rn - 1) then ((fX3_columnError (nI Rn) v (nI j)).bind fun x_36 => some (R i j + x_36)) else ((fX3_columnError (nI Rn) v (nI j)).bind fun x_31 => some (R i j - x_31))) : Option (Int32))) = some (R i j + yColD Rn Rk R i j) := by
    unfold yColD
    rw [li1, nj_sub (by omega)]
    by_cases c : i = Rn - 1
    · rw [if_pos c]
      refine (if_pos (congrArg nI c)).trans ?_
      exact bto (c_columnError h1 h2 hv hj (by omega)) rfl
    · rw [if_neg c]
      refine (if_neg (fun z => c ((nj_eq (by omega) (by omega)).mp z))).trans ?_
      refine bto (c_columnError h1 h2 hv hj (by omega)) ?_
      rw [sub_neg']
  refine bto e1 ?_
  refine bto e2 ?_
  by_cases c : yRowD Rn Rk R i j = yColD Rn Rk R i j
  · rw [if_pos c]
    refine (if_pos (by rw [c])).trans ?_
    exact bto (e_set (by omega) (by omega)) rfl
  · rw [if_neg c]
    exact if_neg (fun z => c (by rw [add_left'] at z; exact z))
def yRes (Rn Rk : Nat) (v : Nat → Int32) (R : Nat → Nat → Int32) : Nat → Int32 := if yVerd Rn Rk R = 1 then upd v (yJr Rn Rk R * 9 + yJc Rn Rk R) (R (yJr Rn Rk R) (yJc Rn Rk R) + yRowD Rn Rk R (yJr Rn Rk R) (yJc Rn Rk R)) else v
theorem c_judge {Rn Rk : Nat} {v : Nat → Int32} {R : Nat → Nat → Int32} (h1 : Rn ≤ 9) (h2 : Rk ≤ 9) (hn : 1 ≤ Rn) (hk : 1 ≤ Rk) (hv : yTq Rn Rk v R) : fX3_judge (nI Rn) (nI Rk) v = some (nI (yVerd Rn Rk R), yRes Rn Rk v R) := by
  unfold fX3_judge
  refine bto (wl_eq (fun m => (nI (yCnt m (yRw Rk R)), yLw m (yRw Rk R), nI m)) 0 Rn (b := (nI (yCnt Rn (yRw Rk R)), yLw Rn (yRw Rk R), nI Rn)) rfl (Nat.zero_le _) (by omega) (fun m _ hm => ?_) ?_) ?_
  · refine (if_neg (fun z => by rw [nj_le (by omega) (by omega)] at z; omega)).trans ?_
    refine bto (c_rowError h1 h2 hv hm hk) ?_
    dsimp only
    rw [yCnt_s, yLw_s, nj_p1, nj_p1]
    by_cases c : yErr Rk (fun j => R m j) = 0
    · have e : ¬ yRw Rk R m = true := by unfold yRw; rw [decide_eq_true c]; decide
      rw [if_neg e, if_neg e]
      exact if_pos c
    · have e : yRw Rk R m = true := by unfold yRw; rw [decide_eq_false c]; rfl
      rw [if_pos e, if_pos e]
      exact if_neg c
  · exact if_pos (Int32.le_refl _)
  refine bto (wl_eq (fun m => (nI (yCnt m (yCw Rn R)), yLw m (yCw Rn R), nI m)) 0 Rk (b := (nI (yCnt Rk (yCw Rn R)), yLw Rk (yCw Rn R), nI Rk)) rfl (Nat.zero_le _) (by omega) (fun m _ hm => ?_) ?_) ?_
  · refine (if_neg (fun z => by rw [nj_le (by omega) (by omega)] at z; omega)).trans ?_
    refine bto (c_columnError h1 h2 hv hm hn) ?_
    dsimp only
    rw [yCnt_s, yLw_s, nj_p1, nj_p1]
    by_cases c : yErr Rn (fun j => R j m) = 0
    · have e : ¬ yCw Rn R m = true := by unfold yCw; rw [decide_eq_true c]; decide
      rw [if_neg e, if_neg e]
      exact if_pos c
    · have e : yCw Rn R m = true := by unfold yCw; rw [decide_eq_false c]; rfl
      rw [if_pos e, if_pos e]
      exact if_neg c
  · exact if_pos (Int32.le_refl _)
  dsimp only
  have l1 := yCnt_le Rn (yRw Rk R)
  have l2 := yCnt_le Rk (yCw Rn R)
  have z1 : (nI (yCnt Rn (yRw Rk R)) = 0) = (yCnt Rn (yRw Rk R) = 0) := by rw [li0, nj_eq (by omega) (by decide)]
  have z2 : (nI (yCnt Rk (yCw Rn R)) = 0) = (yCnt Rk (yCw Rn R) = 0) := by rw [li0, nj_eq (by omega) (by decide)]
  have w1 : (nI (yCnt Rn (yRw Rk R)) = 1) = (yCnt Rn (yRw Rk R) = 1) := by rw [li1, nj_eq (by omega) (by decide)]
  have w2 : (nI (yCnt Rk (yCw Rn R)) = 1) = (yCnt Rk (yCw Rn R) = 1) := by rw [li1, nj_eq (by omega) (by decide)]
  unfold yRes
  by_cases a0 : yCnt Rn (yRw Rk R) = 0
  · refine (if_pos (z1.mpr a0)).trans ?_
    by_cases b0 : yCnt Rk (yCw Rn R) = 0
    · have e : yVerd Rn Rk R = 0 := if_pos ⟨a0, b0⟩
      rw [e]
      exact if_pos (z2.mpr b0)
    · have e : yVerd Rn Rk R = 2 := (if_neg (fun z => b0 z.2)).trans (if_neg (fun z => by omega))
      rw [e]
      refine (if_neg (fun z => b0 (z2.mp z))).trans ?_
      exact if_neg (fun z => by have := w1.mp z; omega)
  · refine (if_neg (fun z => a0 (z1.mp z))).trans ?_
    by_cases a1 : yCnt Rn (yRw Rk R) = 1
    · refine (if_pos (w1.mpr a1)).trans ?_
      by_cases b1 : yCnt Rk (yCw Rn R) = 1
      · refine (if_pos (w2.mpr b1)).trans ?_
        have i1 := yLast_lt (n := Rn) (p := yRw Rk R) (by omega)
        have i2 := yLast_lt (n := Rk) (p := yCw Rn R) (by omega)
        have q1 : yLw Rn (yRw Rk R) = nI (yJr Rn Rk R) := if_neg a0
        have q2 : yLw Rk (yCw Rn R) = nI (yJc Rn Rk R) := if_neg (by omega)
        rw [q1, q2]
        refine bto (c_mend h1 h2 hv i1 i2) ?_
        by_cases d : yRowD Rn Rk R (yJr Rn Rk R) (yJc Rn Rk R) = yColD Rn Rk R (yJr Rn Rk R) (yJc Rn Rk R)
        · have e : yVerd Rn Rk R = 1 := (if_neg (fun z => a0 z.1)).trans (if_pos ⟨a1, b1, d⟩)
          rw [e, if_pos rfl, if_pos d]
          rfl
        · have e : yVerd Rn Rk R = 2 := (if_neg (fun z => a0 z.1)).trans (if_neg (fun z => d z.2.2))
          rw [e, if_neg (show ¬ (2 : Nat) = 1 by decide), if_neg d]
          rfl
      · have e : yVerd Rn Rk R = 2 := (if_neg (fun z => a0 z.1)).trans (if_neg (fun z => b1 z.2.1))
        rw [e]
        exact if_neg (fun z => b1 (w2.mp z))
    · have e : yVerd Rn Rk R = 2 := (if_neg (fun z => a0 z.1)).trans (if_neg (fun z => a1 z.1))
      rw [e]
      exact if_neg (fun z => a1 (w1.mp z))
theorem c_check {Rn Rk : Nat} {v : Nat → Int32} {R : Nat → Nat → Int32} {zs : Int32} (h1 : Rn ≤ 9) (h2 : Rk ≤ 9) (hk : 1 ≤ Rn → 1 ≤ Rk) (hv : yTq Rn Rk v R) : fX6_check (nI Rn) (nI Rk) zs v = some (if Rn = 0 ∨ zs = 0 then .inl 2 else .inr (nI (yVerd Rn Rk R), yRes Rn Rk v R)) := by
  unfold fX6_check
  by_cases c : Rn = 0
  · subst c
    rfl
  refine (if_neg (fun z => c (by rw [li0, nj_eq (by omega) (by decide)] at z; exact z))).trans ?_
  by_cases d : zs = 0
  · rw [if_pos (Or.inr d)]
    exact if_pos d
  · rw [if_neg (show ¬ (Rn = 0 ∨ zs = 0) from fun z => z.elim c d)]
    refine (if_neg d).trans ?_
    exact bto (c_judge h1 h2 (by omega) (hk (by omega)) hv) rfl
theorem e_off1_i {Rn Rk i : Nat} {R : Nat → Nat → Int32} (h1 : Rn ≤ 9) (h2 : Rk ≤ 9) (hi : i < Rn) (hk : 1 ≤ Rk) : fX9_off_i Rn Rk R 1 (nI i) = some (-(yErr Rk (fun j => R i j))) := by
  unfold fX9_off_i
  refine bto (r := nI Rk) ((if_neg (show ¬ (1 : Int32) = 0 by decide)).trans (if_pos (nj_in (a := 0) (n := Rn) (by omega) (by decide)))) ?_
  refine bto (wl_eq (fun m => (if m < Rk then -(ySum m (fun j => R i j)) else -(yErr Rk (fun j => R i j)), nI m)) 0 Rk (b := (-(yErr Rk (fun j => R i j)), nI Rk)) ?_ (Nat.zero_le _) (by omega) (fun m _ hm => ?_) ?_) rfl
  · show (0, nI 0) = ((if 0 < Rk then -(ySum 0 (fun j => R i j)) else -(yErr Rk (fun j => R i j))), nI 0)
    rw [if_pos (Nat.lt_of_lt_of_le Nat.zero_lt_one hk)]
    exact congrArg (fun y => (y, nI 0)) (show (0 : Int32) = -0 by decide)
  · dsimp only
    refine (if_neg (fun z => by rw [nj_le (by omega) (by omega)] at z; omega)).trans ?_
    refine bto (r := R i m) ((if_neg (show ¬ (1 : Int32) = 0 by decide)).trans ((if_pos (nj_in hi (by omega))).trans ((if_pos (nj_in hm (by omega))).trans (by rw [nj_cl (by omega), nj_cl (by omega)])))) ?_
    rw [if_pos hm, li1, nj_sub hk]
    by_cases c : m = Rk - 1
    · refine bto (r := R i m) (if_pos (congrArg nI c)) ?_
      rw [if_neg (show ¬ m + 1 < Rk by omega), ← li1, nj_p1]
      unfold yErr
      rw [← c, ng1]
    · refine bto (r := -(R i m)) (if_neg (fun z => c ((nj_eq (by omega) (by omega)).mp z))) ?_
      rw [if_pos (show m + 1 < Rk by omega), ← li1, nj_p1, ng2]
      rfl
  · dsimp only
    rw [if_neg (Nat.lt_irrefl _)]
    exact if_pos (Int32.le_refl _)
theorem e_off0_i {Rn Rk i : Nat} {R : Nat → Nat → Int32} (h1 : Rn ≤ 9) (h2 : Rk ≤ 9) (hi : i < Rk) (hk : 1 ≤ Rn) : fX9_off_i Rn Rk R 0 (nI i) = some (-(yErr Rn (fun j => R j i))) := by
  unfold fX9_off_i
  refine bto (r := nI Rn) (if_pos rfl) ?_
  refine bto (wl_eq (fun m => (if m < Rn then -(ySum m (fun j => R j i)) else -(yErr Rn (fun j => R j i)), nI m)) 0 Rn (b := (-(yErr Rn (fun j => R j i)), nI Rn)) ?_ (Nat.zero_le _) (by omega) (fun m _ hm => ?_) ?_) rfl
  · show (0, nI 0) = ((if 0 < Rn then -(ySum 0 (fun j => R j i)) else -(yErr Rn (fun j => R j i))), nI 0)
    rw [if_pos (Nat.lt_of_lt_of_le Nat.zero_lt_one hk)]
    exact congrArg (fun y => (y, nI 0)) (show (0 : Int32) = -0 by decide)
  · dsimp only
    refine (if_neg (fun z => by rw [nj_le (by omega) (by omega)] at z; omega)).trans ?_
    refine bto (r := R m i) ((if_pos rfl).trans ((if_pos (nj_in hm (by omega))).trans ((if_pos (nj_in hi (by omega))).trans (by rw [nj_cl (by omega), nj_cl (by omega)])))) ?_
    rw [if_pos hm, li1, nj_sub hk]
    by_cases c : m = Rn - 1
    · refine bto (r := R m i) (if_pos (congrArg nI c)) ?_
      rw [if_neg (show ¬ m + 1 < Rn by omega), ← li1, nj_p1]
      unfold yErr
      rw [← c, ng1]
    · refine bto (r := -(R m i)) (if_neg (fun z => c ((nj_eq (by omega) (by omega)).mp z))) ?_
      rw [if_pos (show m + 1 < Rn by omega), ← li1, nj_p1, ng2]
      rfl
  · dsimp only
    rw [if_neg (Nat.lt_irrefl _)]
    exact if_pos (Int32.le_refl _)
theorem e_wrong1_i {Rn Rk : Nat} {R : Nat → Nat → Int32} (h1 : Rn ≤ 9) (h2 : Rk ≤ 9) (hn : 1 ≤ Rn) (hk : 1 ≤ Rk) (hc : yCnt Rn (yRw Rk R) ≤ 1) : fX9_wrong_i Rn Rk R 1 = some (yLw Rn (yRw Rk R)) := by
  have mono : ∀ m, m ≤ Rn → yCnt m (yRw Rk R) ≤ yCnt Rn (yRw Rk R) := fun m hm => by
    obtain ⟨d, rfl⟩ : ∃ d, Rn = m + d := ⟨Rn - m, by omega⟩
    unfold yCnt
    rw [ySm_split]
    omega
  unfold fX9_wrong_i
  refine bto (wl_eq (fun m => (yLw m (yRw Rk R), nI m)) 0 Rn (b := (yLw Rn (yRw Rk R), nI Rn)) rfl (Nat.zero_le _) (by omega) (fun m _ hm => ?_) ?_) rfl
  · refine bto (r := nI Rn) (if_neg (show ¬ (1 : Int32) = 0 by decide)) ?_
    refine (if_neg (fun z => by rw [nj_le (by omega) (by omega)] at z; omega)).trans ?_
    refine bto (e_off1_i h1 h2 hm hk) ?_
    dsimp only
    rw [yLw_s, nj_p1]
    by_cases c : yErr Rk (fun j => R m j) = 0
    · have e : ¬ yRw Rk R m = true := by unfold yRw; rw [decide_eq_true c]; decide
      rw [if_neg e]
      exact if_pos (by rw [c]; rfl)
    · have e : yRw Rk R m = true := by unfold yRw; rw [decide_eq_false c]; rfl
      rw [if_pos e]
      refine (if_neg (fun z => c (ng0 z))).trans ?_
      have q := mono (m + 1) (by omega)
      rw [yCnt_s, if_pos e] at q
      have e0 : yLw m (yRw Rk R) = -1 := if_pos (by omega)
      exact if_pos e0
  · refine bto (r := nI Rn) (if_neg (show ¬ (1 : Int32) = 0 by decide)) ?_
    exact if_pos (Int32.le_refl _)
theorem e_several1_i {Rn Rk : Nat} {R : Nat → Nat → Int32} (h1 : Rn ≤ 9) (h2 : Rk ≤ 9) (hn : 1 ≤ Rn) (hk : 1 ≤ Rk) : fX9_severalOr_i Rn Rk R 1 = some (if yCnt Rn (yRw Rk R) ≤ 1 then yLw Rn (yRw Rk R) else -2) := by
  have cl := yCnt_le Rn (yRw Rk R)
  unfold fX9_severalOr_i
  refine bto (wl_eq (fun m => (nI (yCnt m (yRw Rk R)), nI m)) 0 Rn (b := (nI (yCnt Rn (yRw Rk R)), nI Rn)) rfl (Nat.zero_le _) (by omega) (fun m _ hm => ?_) ?_) ?_
  · refine bto (r := nI Rn) (if_neg (show ¬ (1 : Int32) = 0 by decide)) ?_
    refine (if_neg (fun z => by rw [nj_le (by omega) (by omega)] at z; omega)).trans ?_
    refine bto (e_off1_i h1 h2 hm hk) ?_
    rw [yb_iten]
    refine bto rfl ?_
    refine bto (e_one _) ?_
    dsimp only
    rw [yCnt_s, nj_p1, nj_yb]
    by_cases c : yErr Rk (fun j => R m j) = 0
    · have e : ¬ yRw Rk R m = true := by unfold yRw; rw [decide_eq_true c]; decide
      rw [if_neg e]
      have w : yN (-(yErr Rk (fun j => R m j))) = 0 := if_pos (by rw [c]; rfl)
      rw [w]
    · have e : yRw Rk R m = true := by unfold yRw; rw [decide_eq_false c]; rfl
      rw [if_pos e]
      have w : yN (-(yErr Rk (fun j => R m j))) = 1 := if_neg (fun z => c (ng0 z))
      rw [w]
  · refine bto (r := nI Rn) (if_neg (show ¬ (1 : Int32) = 0 by decide)) ?_
    exact if_pos (Int32.le_refl _)
  dsimp only
  by_cases c : yCnt Rn (yRw Rk R) ≤ 1
  · rw [if_pos c]
    refine (if_pos (by rw [li1, nj_le (by omega) (by decide)]; exact c)).trans ?_
    exact bto (e_wrong1_i h1 h2 hn hk c) rfl
  · rw [if_neg c]
    exact if_neg (fun z => c (by rw [li1, nj_le (by omega) (by decide)] at z; exact z))
theorem e_wrong0_i {Rn Rk : Nat} {R : Nat → Nat → Int32} (h1 : Rn ≤ 9) (h2 : Rk ≤ 9) (hn : 1 ≤ Rn) (hk : 1 ≤ Rk) (hc : yCnt Rk (yCw Rn R) ≤ 1) : fX9_wrong_i Rn Rk R 0 = some (yLw Rk (yCw Rn R)) := by
  have mono : ∀ m, m ≤ Rk → yCnt m (yCw Rn R) ≤ yCnt Rk (yCw Rn R) := fun m hm => by
    obtain ⟨d, rfl⟩ : ∃ d, Rk = m + d := ⟨Rk - m, by omega⟩
    unfold yCnt
    rw [ySm_split]
    omega
  unfold fX9_wrong_i
  refine bto (wl_eq (fun m => (yLw m (yCw Rn R), nI m)) 0 Rk (b := (yLw Rk (yCw Rn R), nI Rk)) rfl (Nat.zero_le _) (by omega) (fun m _ hm => ?_) ?_) rfl
  · refine bto (r := nI Rk) ((if_pos rfl).trans (if_pos (nj_in (a := 0) (n := Rn) (by omega) (by decide)))) ?_
    refine (if_neg (fun z => by rw [nj_le (by omega) (by omega)] at z; omega)).trans ?_
    refine bto (e_off0_i h1 h2 hm hn) ?_
    dsimp only
    rw [yLw_s, nj_p1]
    by_cases c : yErr Rn (fun j => R j m) = 0
    · have e : ¬ yCw Rn R m = true := by unfold yCw; rw [decide_eq_true c]; decide
      rw [if_neg e]
      exact if_pos (by rw [c]; rfl)
    · have e : yCw Rn R m = true := by unfold yCw; rw [decide_eq_false c]; rfl
      rw [if_pos e]
      refine (if_neg (fun z => c (ng0 z))).trans ?_
      have q := mono (m + 1) (by omega)
      rw [yCnt_s, if_pos e] at q
      have e0 : yLw m (yCw Rn R) = -1 := if_pos (by omega)
      exact if_pos e0
  · refine bto (r := nI Rk) ((if_pos rfl).trans (if_pos (nj_in (a := 0) (n := Rn) (by omega) (by decide)))) ?_
    exact if_pos (Int32.le_refl _)
theorem e_several0_i {Rn Rk : Nat} {R : Nat → Nat → Int32} (h1 : Rn ≤ 9) (h2 : Rk ≤ 9) (hn : 1 ≤ Rn) (hk : 1 ≤ Rk) : fX9_severalOr_i Rn Rk R 0 = some (if yCnt Rk (yCw Rn R) ≤ 1 then yLw Rk (yCw Rn R) else -2) := by
  have cl := yCnt_le Rk (yCw Rn R)
  unfold fX9_severalOr_i
  refine bto (wl_eq (fun m => (nI (yCnt m (yCw Rn R)), nI m)) 0 Rk (b := (nI (yCnt Rk (yCw Rn R)), nI Rk)) rfl (Nat.zero_le _) (by omega) (fun m _ hm => ?_) ?_) ?_
  · refine bto (r := nI Rk) ((if_pos rfl).trans (if_pos (nj_in (a := 0) (n := Rn) (by omega) (by decide)))) ?_
    refine (if_neg (fun z => by rw [nj_le (by omega) (by omega)] at z; omega)).trans ?_
    refine bto (e_off0_i h1 h2 hm hn) ?_
    rw [yb_iten]
    refine bto rfl ?_
    refine bto (e_one _) ?_
    dsimp only
    rw [yCnt_s, nj_p1, nj_yb]
    by_cases c : yErr Rn (fun j => R j m) = 0
    · have e : ¬ yCw Rn R m = true := by unfold yCw; rw [decide_eq_true c]; decide
      rw [if_neg e]
      have w : yN (-(yErr Rn (fun j => R j m))) = 0 := if_pos (by rw [c]; rfl)
      rw [w]
    · have e : yCw Rn R m = true := by unfold yCw; rw [decide_eq_false c]; rfl
      rw [if_pos e]
      have w : yN (-(yErr Rn (fun j => R j m))) = 1 := if_neg (fun z => c (ng0 z))
      rw [w]
  · refine bto (r := nI Rk) ((if_pos rfl).trans (if_pos (nj_in (a := 0) (n := Rn) (by omega) (by decide)))) ?_
    exact if_pos (Int32.le_refl _)
  dsimp only
  by_cases c : yCnt Rk (yCw Rn R) ≤ 1
  · rw [if_pos c]
    refine (if_pos (by rw [li1, nj_le (by omega) (by decide)]; exact c)).trans ?_
    exact bto (e_wrong0_i h1 h2 hn hk c) rfl
  · rw [if_neg c]
    exact if_neg (fun z => c (by rw [li1, nj_le (by omega) (by decide)] at z; exact z))
theorem e_check_i {Rn Rk : Nat} {R : Nat → Nat → Int32} {ch : Int32} (h1 : Rn ≤ 9) (h2 : Rk ≤ 9) (hk : 1 ≤ Rn → 1 ≤ Rk) : fX9_check_i ch Rn Rk R = some (if Rn = 0 ∨ ch = 0 then (0, 1, R) else (nI (yVerd Rn Rk R), 0, if yVerd Rn Rk R = 1 then upg R (yJr Rn Rk R) (yJc Rn Rk R) (R (yJr Rn Rk R) (yJc Rn Rk R) + yRowD Rn Rk R (yJr Rn Rk R) (yJc Rn Rk R)) else R)) := by
  unfold fX9_check_i
  by_cases c : Rn = 0
  · subst c
    rw [if_pos (Or.inl rfl)]
    refine bto (r := (1 : Int32)) rfl ?_
    refine bto (e_start_i (by decide)) ?_
    rfl
  by_cases d : ch = 0
  · rw [if_pos (Or.inr d)]
    refine bto (r := (1 : Int32)) ((if_neg (fun z => c (by rw [li0, nj_eq (by omega) (by decide)] at z; exact z))).trans (if_pos d)) ?_
    refine bto (e_start_i (by decide)) ?_
    rfl
  rw [if_neg (show ¬ (Rn = 0 ∨ ch = 0) from fun z => z.elim c d)]
  refine bto (r := (0 : Int32)) ((if_neg (fun z => c (by rw [li0, nj_eq (by omega) (by decide)] at z; exact z))).trans (if_neg d)) ?_
  refine bto (e_start_i (by decide)) ?_
  refine (if_pos rfl).trans ?_
  have hn : 1 ≤ Rn := by omega
  have hk := hk hn
  refine bto (e_several1_i h1 h2 hn hk) ?_
  refine bto (e_several0_i h1 h2 hn hk) ?_
  try dsimp only
  by_cases a0 : yCnt Rn (yRw Rk R) = 0
  · have p1 : (if yCnt Rn (yRw Rk R) ≤ 1 then yLw Rn (yRw Rk R) else -2) = -1 := (if_pos (by omega)).trans (if_pos a0)
    rw [p1]
    refine (if_pos rfl).trans ?_
    by_cases b0 : yCnt Rk (yCw Rn R) = 0
    · have p2 : (if yCnt Rk (yCw Rn R) ≤ 1 then yLw Rk (yCw Rn R) else -2) = -1 := (if_pos (by omega)).trans (if_pos b0)
      rw [p2]
      have e : yVerd Rn Rk R = 0 := if_pos ⟨a0, b0⟩
      rw [e]
      exact if_pos rfl
    · have p2 : ¬ (if yCnt Rk (yCw Rn R) ≤ 1 then yLw Rk (yCw Rn R) else -2) = -1 := by
        by_cases q : yCnt Rk (yCw Rn R) ≤ 1
        · rw [if_pos q]
          have q2 : yLw Rk (yCw Rn R) = nI (yLast Rk (yCw Rn R)) := if_neg b0
          have i2 := yLast_lt (n := Rk) (p := yCw Rn R) (by omega)
          rw [q2, nj_m1 (by omega)]
          exact id
        · rw [if_neg q]
          decide
      have e : yVerd Rn Rk R = 2 := (if_neg (fun z => b0 z.2)).trans (if_neg (fun z => by omega))
      rw [e]
      refine (if_neg p2).trans ?_
      exact if_pos (by decide)
  · by_cases a1 : yCnt Rn (yRw Rk R) ≤ 1
    · have i1 := yLast_lt (n := Rn) (p := yRw Rk R) (by omega)
      have p1 : (if yCnt Rn (yRw Rk R) ≤ 1 then yLw Rn (yRw Rk R) else -2) = nI (yJr Rn Rk R) := (if_pos a1).trans (if_neg a0)
      have i1 : yJr Rn Rk R < Rn := i1
      rw [p1]
      refine (if_neg (fun z => by rw [nj_m1 (by omega)] at z; exact z)).trans ?_
      refine (if_neg (fun z => by rw [nj_neg (by omega)] at z; exact z)).trans ?_
      by_cases b1 : yCnt Rk (yCw Rn R) = 1
      · have i2 := yLast_lt (n := Rk) (p := yCw Rn R) (by omega)
        have p2 : (if yCnt Rk (yCw Rn R) ≤ 1 then yLw Rk (yCw Rn R) else -2) = nI (yJc Rn Rk R) := (if_pos (by omega)).trans (if_neg (by omega))
        have i2 : yJc Rn Rk R < Rk := i2
        rw [p2]
        refine (if_pos (by rw [li0, nj_le (by decide) (by omega)]; exact Nat.zero_le _)).trans ?_
        refine (if_pos (nj_in (a := 0) (n := Rn) (by omega) (by decide))).trans ?_
        have r1 : (((if nI (yJc Rn Rk R) = ((nI Rk) - 1) then ((fX9_off_i Rn Rk R 1 (nI (yJr Rn Rk R))).bind fun x_62 => some (-x_62)) else ((fX9_off_i Rn Rk R 1 (nI (yJr Rn Rk R))).bind fun x_57 => some x_57)) : Option (Int32))) = some (yRowD Rn Rk R (yJr Rn Rk R) (yJc Rn Rk R)) := by
          unfold yRowD
          rw [li1, nj_sub hk]
          by_cases w : yJc Rn Rk R = Rk - 1
          · rw [if_pos w]
            refine (if_pos (congrArg nI w)).trans ?_
            refine bto (e_off1_i h1 h2 i1 hk) ?_
            rw [Int32.neg_neg]
          · rw [if_neg w]
            refine (if_neg (fun z => w ((nj_eq (by omega) (by omega)).mp z))).trans ?_
            exact bto (e_off1_i h1 h2 i1 hk) rfl
        have r2 : (((if nI (yJr Rn Rk R) = ((nI Rn) - 1) then ((fX9_off_i Rn Rk R 0 (nI (yJc Rn Rk R))).bind fun x_51 => some (-x_51)) else ((fX9_off_i Rn Rk R 0 (nI (yJc Rn Rk R))).bind fun x_46 => some x_46)) : Option (Int32))) = some (yColD Rn Rk R (yJr Rn Rk R) (yJc Rn Rk R)) := by
          unfold yColD
          rw [li1, nj_sub hn]
          by_cases w : yJr Rn Rk R = Rn - 1
          · rw [if_pos w]
            refine (if_pos (congrArg nI w)).trans ?_
            refine bto (e_off0_i h1 h2 i2 hn) ?_
            rw [Int32.neg_neg]
          · rw [if_neg w]
            refine (if_neg (fun z => w ((nj_eq (by omega) (by omega)).mp z))).trans ?_
            exact bto (e_off0_i h1 h2 i2 hn) rfl
        refine bto r1 ?_
        refine bto r2 ?_
        by_cases w : yRowD Rn Rk R (yJr Rn Rk R) (yJc Rn Rk R) = yColD Rn Rk R (yJr Rn Rk R) (yJc Rn Rk R)
        · have e : yVerd Rn Rk R = 1 := (if_neg (fun z => a0 z.1)).trans (if_pos ⟨by omega, b1, w⟩)
          rw [e, if_pos rfl]
          refine (if_pos w).trans ?_
          refine (if_pos (nj_in i1 (by omega))).trans ?_
          refine (if_pos (nj_in i2 (by omega))).trans ?_
          refine (if_pos (nj_in i2 (by omega))).trans ?_
          rw [nj_cl (by omega), nj_cl (by omega)]
          rfl
        · have e : yVerd Rn Rk R = 2 := (if_neg (fun z => a0 z.1)).trans (if_neg (fun z => w z.2.2))
          rw [e, if_neg (show ¬ (2 : Nat) = 1 by decide)]
          exact if_neg w
      · have e : yVerd Rn Rk R = 2 := (if_neg (fun z => a0 z.1)).trans (if_neg (fun z => b1 z.2.1))
        rw [e, if_neg (show ¬ (2 : Nat) = 1 by decide)]
        refine if_neg (fun z => ?_)
        by_cases b0 : yCnt Rk (yCw Rn R) = 0
        · have p2 : (if yCnt Rk (yCw Rn R) ≤ 1 then yLw Rk (yCw Rn R) else -2) = -1 := (if_pos (by omega)).trans (if_pos b0)
          rw [p2] at z
          exact absurd z (by decide)
        · have p2 : (if yCnt Rk (yCw Rn R) ≤ 1 then yLw Rk (yCw Rn R) else -2) = -2 := if_neg (by omega)
          rw [p2] at z
          exact absurd z (by decide)
    · have p1 : (if yCnt Rn (yRw Rk R) ≤ 1 then yLw Rn (yRw Rk R) else -2) = -2 := if_neg a1
      have e : yVerd Rn Rk R = 2 := (if_neg (fun z => a0 z.1)).trans (if_neg (fun z => by omega))
      rw [p1, e, if_neg (show ¬ (2 : Nat) = 1 by decide)]
      refine (if_neg (by decide)).trans ?_
      exact if_pos (by decide)
theorem e_off1_r {Rn Rk i : Nat} {R : Nat → Nat → Int32} (h1 : Rn ≤ 9) (h2 : Rk ≤ 9) (hi : i < Rn) (hk : 1 ≤ Rk) : fX9_off_r Rn Rk R 1 (nI i) = some (-(yErr Rk (fun j => R i j))) := by
  unfold fX9_off_r
  refine bto (r := nI Rk) ((if_neg (show ¬ (1 : Int32) = 0 by decide)).trans (if_pos (nj_in (a := 0) (n := Rn) (by omega) (by decide)))) ?_
  refine bto (wl_eq (fun m => (if m < Rk then -(ySum m (fun j => R i j)) else -(yErr Rk (fun j => R i j)), nI m)) 0 Rk (b := (-(yErr Rk (fun j => R i j)), nI Rk)) ?_ (Nat.zero_le _) (by omega) (fun m _ hm => ?_) ?_) rfl
  · show (0, nI 0) = ((if 0 < Rk then -(ySum 0 (fun j => R i j)) else -(yErr Rk (fun j => R i j))), nI 0)
    rw [if_pos (Nat.lt_of_lt_of_le Nat.zero_lt_one hk)]
    exact congrArg (fun y => (y, nI 0)) (show (0 : Int32) = -0 by decide)
  · dsimp only
    refine (if_neg (fun z => by rw [nj_le (by omega) (by omega)] at z; omega)).trans ?_
    refine bto (r := R i m) ((if_neg (show ¬ (1 : Int32) = 0 by decide)).trans ((if_pos (nj_in hi (by omega))).trans ((if_pos (nj_in hm (by omega))).trans (by rw [nj_cl (by omega), nj_cl (by omega)])))) ?_
    rw [if_pos hm, li1, nj_sub hk]
    by_cases c : m = Rk - 1
    · refine bto (r := R i m) (if_pos (congrArg nI c)) ?_
      rw [if_neg (show ¬ m + 1 < Rk by omega), ← li1, nj_p1]
      unfold yErr
      rw [← c, ng1]
    · refine bto (r := -(R i m)) (if_neg (fun z => c ((nj_eq (by omega) (by omega)).mp z))) ?_
      rw [if_pos (show m + 1 < Rk by omega), ← li1, nj_p1, ng2]
      rfl
  · dsimp only
    rw [if_neg (Nat.lt_irrefl _)]
    exact if_pos (Int32.le_refl _)
theorem e_off0_r {Rn Rk i : Nat} {R : Nat → Nat → Int32} (h1 : Rn ≤ 9) (h2 : Rk ≤ 9) (hi : i < Rk) (hk : 1 ≤ Rn) : fX9_off_r Rn Rk R 0 (nI i) = some (-(yErr Rn (fun j => R j i))) := by
  unfold fX9_off_r
  refine bto (r := nI Rn) (if_pos rfl) ?_
  refine bto (wl_eq (fun m => (if m < Rn then -(ySum m (fun j => R j i)) else -(yErr Rn (fun j => R j i)), nI m)) 0 Rn (b := (-(yErr Rn (fun j => R j i)), nI Rn)) ?_ (Nat.zero_le _) (by omega) (fun m _ hm => ?_) ?_) rfl
  · show (0, nI 0) = ((if 0 < Rn then -(ySum 0 (fun j => R j i)) else -(yErr Rn (fun j => R j i))), nI 0)
    rw [if_pos (Nat.lt_of_lt_of_le Nat.zero_lt_one hk)]
    exact congrArg (fun y => (y, nI 0)) (show (0 : Int32) = -0 by decide)
  · dsimp only
    refine (if_neg (fun z => by rw [nj_le (by omega) (by omega)] at z; omega)).trans ?_
    refine bto (r := R m i) ((if_pos rfl).trans ((if_pos (nj_in hm (by omega))).trans ((if_pos (nj_in hi (by omega))).trans (by rw [nj_cl (by omega), nj_cl (by omega)])))) ?_
    rw [if_pos hm, li1, nj_sub hk]
    by_cases c : m = Rn - 1
    · refine bto (r := R m i) (if_pos (congrArg nI c)) ?_
      rw [if_neg (show ¬ m + 1 < Rn by omega), ← li1, nj_p1]
      unfold yErr
      rw [← c, ng1]
    · refine bto (r := -(R m i)) (if_neg (fun z => c ((nj_eq (by omega) (by omega)).mp z))) ?_
      rw [if_pos (show m + 1 < Rn by omega), ← li1, nj_p1, ng2]
      rfl
  · dsimp only
    rw [if_neg (Nat.lt_irrefl _)]
    exact if_pos (Int32.le_refl _)
theorem e_wrong1_r {Rn Rk : Nat} {R : Nat → Nat → Int32} (h1 : Rn ≤ 9) (h2 : Rk ≤ 9) (hn : 1 ≤ Rn) (hk : 1 ≤ Rk) (hc : yCnt Rn (yRw Rk R) ≤ 1) : fX9_wrong_r Rn Rk R 1 = some (yLw Rn (yRw Rk R)) := by
  have mono : ∀ m, m ≤ Rn → yCnt m (yRw Rk R) ≤ yCnt Rn (yRw Rk R) := fun m hm => by
    obtain ⟨d, rfl⟩ : ∃ d, Rn = m + d := ⟨Rn - m, by omega⟩
    unfold yCnt
    rw [ySm_split]
    omega
  unfold fX9_wrong_r
  refine bto (wl_eq (fun m => (yLw m (yRw Rk R), nI m)) 0 Rn (b := (yLw Rn (yRw Rk R), nI Rn)) rfl (Nat.zero_le _) (by omega) (fun m _ hm => ?_) ?_) rfl
  · refine bto (r := nI Rn) (if_neg (show ¬ (1 : Int32) = 0 by decide)) ?_
    refine (if_neg (fun z => by rw [nj_le (by omega) (by omega)] at z; omega)).trans ?_
    refine bto (e_off1_r h1 h2 hm hk) ?_
    dsimp only
    rw [yLw_s, nj_p1]
    by_cases c : yErr Rk (fun j => R m j) = 0
    · have e : ¬ yRw Rk R m = true := by unfold yRw; rw [decide_eq_true c]; decide
      rw [if_neg e]
      exact if_pos (by rw [c]; rfl)
    · have e : yRw Rk R m = true := by unfold yRw; rw [decide_eq_false c]; rfl
      rw [if_pos e]
      refine (if_neg (fun z => c (ng0 z))).trans ?_
      have q := mono (m + 1) (by omega)
      rw [yCnt_s, if_pos e] at q
      have e0 : yLw m (yRw Rk R) = -1 := if_pos (by omega)
      exact if_pos e0
  · refine bto (r := nI Rn) (if_neg (show ¬ (1 : Int32) = 0 by decide)) ?_
    exact if_pos (Int32.le_refl _)
theorem e_several1_r {Rn Rk : Nat} {R : Nat → Nat → Int32} (h1 : Rn ≤ 9) (h2 : Rk ≤ 9) (hn : 1 ≤ Rn) (hk : 1 ≤ Rk) : fX9_severalOr_r Rn Rk R 1 = some (if yCnt Rn (yRw Rk R) ≤ 1 then yLw Rn (yRw Rk R) else -2) := by
  have cl := yCnt_le Rn (yRw Rk R)
  unfold fX9_severalOr_r
  refine bto (wl_eq (fun m => (nI (yCnt m (yRw Rk R)), nI m)) 0 Rn (b := (nI (yCnt Rn (yRw Rk R)), nI Rn)) rfl (Nat.zero_le _) (by omega) (fun m _ hm => ?_) ?_) ?_
  · refine bto (r := nI Rn) (if_neg (show ¬ (1 : Int32) = 0 by decide)) ?_
    refine (if_neg (fun z => by rw [nj_le (by omega) (by omega)] at z; omega)).trans ?_
    refine bto (e_off1_r h1 h2 hm hk) ?_
    rw [yb_iten]
    refine bto rfl ?_
    refine bto (e_one _) ?_
    dsimp only
    rw [yCnt_s, nj_p1, nj_yb]
    by_cases c : yErr Rk (fun j => R m j) = 0
    · have e : ¬ yRw Rk R m = true := by unfold yRw; rw [decide_eq_true c]; decide
      rw [if_neg e]
      have w : yN (-(yErr Rk (fun j => R m j))) = 0 := if_pos (by rw [c]; rfl)
      rw [w]
    · have e : yRw Rk R m = true := by unfold yRw; rw [decide_eq_false c]; rfl
      rw [if_pos e]
      have w : yN (-(yErr Rk (fun j => R m j))) = 1 := if_neg (fun z => c (ng0 z))
      rw [w]
  · refine bto (r := nI Rn) (if_neg (show ¬ (1 : Int32) = 0 by decide)) ?_
    exact if_pos (Int32.le_refl _)
  dsimp only
  by_cases c : yCnt Rn (yRw Rk R) ≤ 1
  · rw [if_pos c]
    refine (if_pos (by rw [li1, nj_le (by omega) (by decide)]; exact c)).trans ?_
    exact bto (e_wrong1_r h1 h2 hn hk c) rfl
  · rw [if_neg c]
    exact if_neg (fun z => c (by rw [li1, nj_le (by omega) (by decide)] at z; exact z))
theorem e_wrong0_r {Rn Rk : Nat} {R : Nat → Nat → Int32} (h1 : Rn ≤ 9) (h2 : Rk ≤ 9) (hn : 1 ≤ Rn) (hk : 1 ≤ Rk) (hc : yCnt Rk (yCw Rn R) ≤ 1) : fX9_wrong_r Rn Rk R 0 = some (yLw Rk (yCw Rn R)) := by
  have mono : ∀ m, m ≤ Rk → yCnt m (yCw Rn R) ≤ yCnt Rk (yCw Rn R) := fun m hm => by
    obtain ⟨d, rfl⟩ : ∃ d, Rk = m + d := ⟨Rk - m, by omega⟩
    unfold yCnt
    rw [ySm_split]
    omega
  unfold fX9_wrong_r
  refine bto (wl_eq (fun m => (yLw m (yCw Rn R), nI m)) 0 Rk (b := (yLw Rk (yCw Rn R), nI Rk)) rfl (Nat.zero_le _) (by omega) (fun m _ hm => ?_) ?_) rfl
  · refine bto (r := nI Rk) ((if_pos rfl).trans (if_pos (nj_in (a := 0) (n := Rn) (by omega) (by decide)))) ?_
    refine (if_neg (fun z => by rw [nj_le (by omega) (by omega)] at z; omega)).trans ?_
    refine bto (e_off0_r h1 h2 hm hn) ?_
    dsimp only
    rw [yLw_s, nj_p1]
    by_cases c : yErr Rn (fun j => R j m) = 0
    · have e : ¬ yCw Rn R m = true := by unfold yCw; rw [decide_eq_true c]; decide
      rw [if_neg e]
      exact if_pos (by rw [c]; rfl)
    · have e : yCw Rn R m = true := by unfold yCw; rw [decide_eq_false c]; rfl
      rw [if_pos e]
      refine (if_neg (fun z => c (ng0 z))).trans ?_
      have q := mono (m + 1) (by omega)
      rw [yCnt_s, if_pos e] at q
      have e0 : yLw m (yCw Rn R) = -1 := if_pos (by omega)
      exact if_pos e0
  · refine bto (r := nI Rk) ((if_pos rfl).trans (if_pos (nj_in (a := 0) (n := Rn) (by omega) (by decide)))) ?_
    exact if_pos (Int32.le_refl _)
theorem e_several0_r {Rn Rk : Nat} {R : Nat → Nat → Int32} (h1 : Rn ≤ 9) (h2 : Rk ≤ 9) (hn : 1 ≤ Rn) (hk : 1 ≤ Rk) : fX9_severalOr_r Rn Rk R 0 = some (if yCnt Rk (yCw Rn R) ≤ 1 then yLw Rk (yCw Rn R) else -2) := by
  have cl := yCnt_le Rk (yCw Rn R)
  unfold fX9_severalOr_r
  refine bto (wl_eq (fun m => (nI (yCnt m (yCw Rn R)), nI m)) 0 Rk (b := (nI (yCnt Rk (yCw Rn R)), nI Rk)) rfl (Nat.zero_le _) (by omega) (fun m _ hm => ?_) ?_) ?_
  · refine bto (r := nI Rk) ((if_pos rfl).trans (if_pos (nj_in (a := 0) (n := Rn) (by omega) (by decide)))) ?_
    refine (if_neg (fun z => by rw [nj_le (by omega) (by omega)] at z; omega)).trans ?_
    refine bto (e_off0_r h1 h2 hm hn) ?_
    rw [yb_iten]
    refine bto rfl ?_
    refine bto (e_one _) ?_
    dsimp only
    rw [yCnt_s, nj_p1, nj_yb]
    by_cases c : yErr Rn (fun j => R j m) = 0
    · have e : ¬ yCw Rn R m = true := by unfold yCw; rw [decide_eq_true c]; decide
      rw [if_neg e]
      have w : yN (-(yErr Rn (fun j => R j m))) = 0 := if_pos (by rw [c]; rfl)
      rw [w]
    · have e : yCw Rn R m = true := by unfold yCw; rw [decide_eq_false c]; rfl
      rw [if_pos e]
      have w : yN (-(yErr Rn (fun j => R j m))) = 1 := if_neg (fun z => c (ng0 z))
      rw [w]
  · refine bto (r := nI Rk) ((if_pos rfl).trans (if_pos (nj_in (a := 0) (n := Rn) (by omega) (by decide)))) ?_
    exact if_pos (Int32.le_refl _)
  dsimp only
  by_cases c : yCnt Rk (yCw Rn R) ≤ 1
  · rw [if_pos c]
    refine (if_pos (by rw [li1, nj_le (by omega) (by decide)]; exact c)).trans ?_
    exact bto (e_wrong0_r h1 h2 hn hk c) rfl
  · rw [if_neg c]
    exact if_neg (fun z => c (by rw [li1, nj_le (by omega) (by decide)] at z; exact z))
theorem e_check_r {Rn Rk : Nat} {R : Nat → Nat → Int32} {ch : Int32} (h1 : Rn ≤ 9) (h2 : Rk ≤ 9) (hk : 1 ≤ Rn → 1 ≤ Rk) : fX9_check_r ch Rn Rk R = some (if Rn = 0 ∨ ch = 0 then (0, 1, R) else (nI (yVerd Rn Rk R), 0, if yVerd Rn Rk R = 1 then upg R (yJr Rn Rk R) (yJc Rn Rk R) (R (yJr Rn Rk R) (yJc Rn Rk R) + yRowD Rn Rk R (yJr Rn Rk R) (yJc Rn Rk R)) else R)) := by
  unfold fX9_check_r
  by_cases c : Rn = 0
  · subst c
    rw [if_pos (Or.inl rfl)]
    refine bto (r := (1 : Int32)) rfl ?_
    refine bto (e_start_r (by decide)) ?_
    rfl
  by_cases d : ch = 0
  · rw [if_pos (Or.inr d)]
    refine bto (r := (1 : Int32)) ((if_neg (fun z => c (by rw [li0, nj_eq (by omega) (by decide)] at z; exact z))).trans (if_pos d)) ?_
    refine bto (e_start_r (by decide)) ?_
    rfl
  rw [if_neg (show ¬ (Rn = 0 ∨ ch = 0) from fun z => z.elim c d)]
  refine bto (r := (0 : Int32)) ((if_neg (fun z => c (by rw [li0, nj_eq (by omega) (by decide)] at z; exact z))).trans (if_neg d)) ?_
  refine bto (e_start_r (by decide)) ?_
  refine (if_pos rfl).trans ?_
  have hn : 1 ≤ Rn := by omega
  have hk := hk hn
  refine bto (e_several1_r h1 h2 hn hk) ?_
  refine bto (e_several0_r h1 h2 hn hk) ?_
  try dsimp only
  by_cases a0 : yCnt Rn (yRw Rk R) = 0
  · have p1 : (if yCnt Rn (yRw Rk R) ≤ 1 then yLw Rn (yRw Rk R) else -2) = -1 := (if_pos (by omega)).trans (if_pos a0)
    rw [p1]
    refine (if_pos rfl).trans ?_
    by_cases b0 : yCnt Rk (yCw Rn R) = 0
    · have p2 : (if yCnt Rk (yCw Rn R) ≤ 1 then yLw Rk (yCw Rn R) else -2) = -1 := (if_pos (by omega)).trans (if_pos b0)
      rw [p2]
      have e : yVerd Rn Rk R = 0 := if_pos ⟨a0, b0⟩
      rw [e]
      exact if_pos rfl
    · have p2 : ¬ (if yCnt Rk (yCw Rn R) ≤ 1 then yLw Rk (yCw Rn R) else -2) = -1 := by
        by_cases q : yCnt Rk (yCw Rn R) ≤ 1
        · rw [if_pos q]
          have q2 : yLw Rk (yCw Rn R) = nI (yLast Rk (yCw Rn R)) := if_neg b0
          have i2 := yLast_lt (n := Rk) (p := yCw Rn R) (by omega)
          rw [q2, nj_m1 (by omega)]
          exact id
        · rw [if_neg q]
          decide
      have e : yVerd Rn Rk R = 2 := (if_neg (fun z => b0 z.2)).trans (if_neg (fun z => by omega))
      rw [e]
      refine (if_neg p2).trans ?_
      exact if_pos (by decide)
  · by_cases a1 : yCnt Rn (yRw Rk R) ≤ 1
    · have i1 := yLast_lt (n := Rn) (p := yRw Rk R) (by omega)
      have p1 : (if yCnt Rn (yRw Rk R) ≤ 1 then yLw Rn (yRw Rk R) else -2) = nI (yJr Rn Rk R) := (if_pos a1).trans (if_neg a0)
      have i1 : yJr Rn Rk R < Rn := i1
      rw [p1]
      refine (if_neg (fun z => by rw [nj_m1 (by omega)] at z; exact z)).trans ?_
      refine (if_neg (fun z => by rw [nj_neg (by omega)] at z; exact z)).trans ?_
      by_cases b1 : yCnt Rk (yCw Rn R) = 1
      · have i2 := yLast_lt (n := Rk) (p := yCw Rn R) (by omega)
        have p2 : (if yCnt Rk (yCw Rn R) ≤ 1 then yLw Rk (yCw Rn R) else -2) = nI (yJc Rn Rk R) := (if_pos (by omega)).trans (if_neg (by omega))
        have i2 : yJc Rn Rk R < Rk := i2
        rw [p2]
        refine (if_pos (by rw [li0, nj_le (by decide) (by omega)]; exact Nat.zero_le _)).trans ?_
        refine (if_pos (nj_in (a := 0) (n := Rn) (by omega) (by decide))).trans ?_
        have r1 : (((if nI (yJc Rn Rk R) = ((nI Rk) - 1) then ((fX9_off_r Rn Rk R 1 (nI (yJr Rn Rk R))).bind fun x_62 => some (-x_62)) else ((fX9_off_r Rn Rk R 1 (nI (yJr Rn Rk R))).bind fun x_57 => some x_57)) : Option (Int32))) = some (yRowD Rn Rk R (yJr Rn Rk R) (yJc Rn Rk R)) := by
          unfold yRowD
          rw [li1, nj_sub hk]
          by_cases w : yJc Rn Rk R = Rk - 1
          · rw [if_pos w]
            refine (if_pos (congrArg nI w)).trans ?_
            refine bto (e_off1_r h1 h2 i1 hk) ?_
            rw [Int32.neg_neg]
          · rw [if_neg w]
            refine (if_neg (fun z => w ((nj_eq (by omega) (by omega)).mp z))).trans ?_
            exact bto (e_off1_r h1 h2 i1 hk) rfl
        have r2 : (((if nI (yJr Rn Rk R) = ((nI Rn) - 1) then ((fX9_off_r Rn Rk R 0 (nI (yJc Rn Rk R))).bind fun x_51 => some (-x_51)) else ((fX9_off_r Rn Rk R 0 (nI (yJc Rn Rk R))).bind fun x_46 => some x_46)) : Option (Int32))) = some (yColD Rn Rk R (yJr Rn Rk R) (yJc Rn Rk R)) := by
          unfold yColD
          rw [li1, nj_sub hn]
          by_cases w : yJr Rn Rk R = Rn - 1
          · rw [if_pos w]
            refine (if_pos (congrArg nI w)).trans ?_
            refine bto (e_off0_r h1 h2 i2 hn) ?_
            rw [Int32.neg_neg]
          · rw [if_neg w]
            refine (if_neg (fun z => w ((nj_eq (by omega) (by omega)).mp z))).trans ?_
            exact bto (e_off0_r h1 h2 i2 hn) rfl
        refine bto r1 ?_
        refine bto r2 ?_
        by_cases w : yRowD Rn Rk R (yJr Rn Rk R) (yJc Rn Rk R) = yColD Rn Rk R (yJr Rn Rk R) (yJc Rn Rk R)
        · have e : yVerd Rn Rk R = 1 := (if_neg (fun z => a0 z.1)).trans (if_pos ⟨by omega, b1, w⟩)
          rw [e, if_pos rfl]
          refine (if_pos w).trans ?_
          refine (if_pos (nj_in i1 (by omega))).trans ?_
          refine (if_pos (nj_in i2 (by omega))).trans ?_
          refine (if_pos (nj_in i2 (by omega))).trans ?_
          rw [nj_cl (by omega), nj_cl (by omega)]
          rfl
        · have e : yVerd Rn Rk R = 2 := (if_neg (fun z => a0 z.1)).trans (if_neg (fun z => w z.2.2))
          rw [e, if_neg (show ¬ (2 : Nat) = 1 by decide)]
          exact if_neg w
      · have e : yVerd Rn Rk R = 2 := (if_neg (fun z => a0 z.1)).trans (if_neg (fun z => b1 z.2.1))
        rw [e, if_neg (show ¬ (2 : Nat) = 1 by decide)]
        refine if_neg (fun z => ?_)
        by_cases b0 : yCnt Rk (yCw Rn R) = 0
        · have p2 : (if yCnt Rk (yCw Rn R) ≤ 1 then yLw Rk (yCw Rn R) else -2) = -1 := (if_pos (by omega)).trans (if_pos b0)
          rw [p2] at z
          exact absurd z (by decide)
        · have p2 : (if yCnt Rk (yCw Rn R) ≤ 1 then yLw Rk (yCw Rn R) else -2) = -2 := if_neg (by omega)
          rw [p2] at z
          exact absurd z (by decide)
    · have p1 : (if yCnt Rn (yRw Rk R) ≤ 1 then yLw Rn (yRw Rk R) else -2) = -2 := if_neg a1
      have e : yVerd Rn Rk R = 2 := (if_neg (fun z => a0 z.1)).trans (if_neg (fun z => by omega))
      rw [p1, e, if_neg (show ¬ (2 : Nat) = 1 by decide)]
      refine (if_neg (by decide)).trans ?_
      exact if_pos (by decide)
