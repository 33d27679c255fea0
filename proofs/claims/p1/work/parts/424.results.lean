theorem yi_nm1 {n : Nat} (h : n ≤ 9) : (nI n - 1).toInt = (n : Int) - 1 := by
  have e := yi_nI (n := n) (by omega)
  rw [yi_sub (by rw [e]; show -2147483648 ≤ (n : Int) - 1; omega) (by rw [e]; show (n : Int) - 1 ≤ 2147483647; omega), e]
  rfl
theorem o_X9_isNoResult_i {gRn : Nat} {gRk : Nat} {i1 : Int32} {i2 : Int32} (k_0 : gRn ≤ 9) (k_1 : gRk ≤ 9) : Ok (fX9_isNoResult_i gRn gRk i1 i2) (fun r => (r = 0 ∧ ((0 ≤ i1.toInt ∧ i1.toInt < gRn) ∧ 0 ≤ i2.toInt ∧ i2.toInt < gRk)) ∨ (r = 1 ∧ ¬ ((0 ≤ i1.toInt ∧ i1.toInt < gRn) ∧ 0 ≤ i2.toInt ∧ i2.toInt < gRk))) := by
  have l0 : Int32.toInt (0) = 0 := by decide
  have m1 := yi_nm1 k_0
  have m2 := yi_nm1 k_1
  unfold fX9_isNoResult_i
  refine Ok.bind (o_X9_isIn) (fun x_1 h_x_1 => ?_)
  refine Ok.ite (fun c1 => ?_) (fun c1 => ?_)
  · exact Ok.some (Or.inr ⟨rfl, by have g := (yi_bs h_x_1).1 c1; omega⟩)
  · refine Ok.grd (yi_in (by omega) (by have g := (yi_bs h_x_1).2 c1; omega)) ?_
    refine Ok.bind (o_X9_isIn) (fun x_7 h_x_7 => ?_)
    refine Ok.ite (fun c2 => ?_) (fun c2 => ?_)
    · exact Ok.some (Or.inr ⟨rfl, by have g := (yi_bs h_x_7).1 c2; omega⟩)
    · exact Ok.some (Or.inl ⟨rfl, by have g := (yi_bs h_x_1).2 c1; have g2 := (yi_bs h_x_7).2 c2; omega⟩)
theorem o_X9_result_i {gRn : Nat} {gRk : Nat} {gRG : Nat → Nat → Int32} {i1 : Int32} {i2 : Int32} (k_0 : gRn ≤ 9) (k_1 : gRk ≤ 9) : Ok (fX9_result_i gRn gRk gRG i1 i2) (fun _ => True) := by
  unfold fX9_result_i
  refine Ok.bind (o_X9_isNoResult_i (by first | assumption | decide) (by first | assumption | decide)) (fun x_1 h_x_1 => ?_)
  refine Ok.bind (o_X9_start_i (by first | assumption | decide)) (fun x_5 h_x_5 => ?_)
  have f_x_5 := yi_st h_x_5
  refine Ok.ite (fun c1 => ?_) (fun c1 => ?_)
  · refine Ok.grd (by have g := (yi_bs h_x_1).1 (f_x_5.1 c1).1; exact yi_in (by omega) (by omega)) ?_
    refine Ok.grd (by have g := (yi_bs h_x_1).1 (f_x_5.1 c1).1; exact yi_in (by omega) (by omega)) ?_
    exact Ok.some trivial
  · exact Ok.some trivial
theorem o_X9_bend_i {gRn : Nat} {gRk : Nat} {gRG : Nat → Nat → Int32} {i1 : Int32} {i2 : Int32} {i3 : Int32} (k_0 : gRn ≤ 9) (k_1 : gRk ≤ 9) : Ok (fX9_bend_i gRn gRk gRG i1 i2 i3) (fun _ => True) := by
  unfold fX9_bend_i
  refine Ok.bind (o_X9_isNoResult_i (by first | assumption | first | exact (f_x_5.1 c1).2 | decide) (by first | assumption | first | exact (f_x_5.1 c1).2 | decide)) (fun x_1 h_x_1 => ?_)
  refine Ok.bind (o_X9_start_i (by first | assumption | first | exact (f_x_5.1 c1).2 | decide)) (fun x_5 h_x_5 => ?_)
  have f_x_5 := yi_st h_x_5
  refine Ok.ite (fun c1 => ?_) (fun c1 => ?_)
  · refine Ok.bind (o_X9_isIn) (fun x_10 h_x_10 => ?_)
    refine Ok.bind (P := fun _ => True) ?_ (fun r_15 h_r_15 => ?_)
    · refine Ok.ite (fun c2 => ?_) (fun c2 => ?_)
      · exact Ok.some trivial
      · exact Ok.some trivial
    refine Ok.bind (o_X9_refuse_i (by first | assumption | first | exact (f_x_5.1 c1).2 | decide) (by first | assumption | first | exact (f_x_5.1 c1).2 | decide)) (fun x_16 h_x_16 => ?_)
    refine Ok.ite (fun c3 => ?_) (fun c3 => ?_)
    · refine Ok.grd (by have g := (yi_bs h_x_1).1 (f_x_5.1 c1).1; exact yi_in (by omega) (by omega)) ?_
      refine Ok.grd (by have g := (yi_bs h_x_1).1 (f_x_5.1 c1).1; exact yi_in (by omega) (by omega)) ?_
      refine Ok.grd (by have g := (yi_bs h_x_1).1 (f_x_5.1 c1).1; exact yi_in (by omega) (by omega)) ?_
      refine Ok.grd (by have g := (yi_bs h_x_1).1 (f_x_5.1 c1).1; exact yi_in (by omega) (by omega)) ?_
      refine Ok.grd (by have g := (yi_bs h_x_1).1 (f_x_5.1 c1).1; exact yi_in (by omega) (by omega)) ?_
      exact Ok.some trivial
    · exact Ok.some trivial
  · exact Ok.some trivial
theorem o_X9_isNoResult_r {gRn : Nat} {gRk : Nat} {i1 : Int32} {i2 : Int32} (k_0 : gRn ≤ 9) (k_1 : gRk ≤ 9) : Ok (fX9_isNoResult_r gRn gRk i1 i2) (fun r => (r = 0 ∧ ((0 ≤ i1.toInt ∧ i1.toInt < gRn) ∧ 0 ≤ i2.toInt ∧ i2.toInt < gRk)) ∨ (r = 1 ∧ ¬ ((0 ≤ i1.toInt ∧ i1.toInt < gRn) ∧ 0 ≤ i2.toInt ∧ i2.toInt < gRk))) := by
  have l0 : Int32.toInt (0) = 0 := by decide
  have m1 := yi_nm1 k_0
  have m2 := yi_nm1 k_1
  unfold fX9_isNoResult_r
  refine Ok.bind (o_X9_isIn) (fun x_1 h_x_1 => ?_)
  refine Ok.ite (fun c1 => ?_) (fun c1 => ?_)
  · exact Ok.some (Or.inr ⟨rfl, by have g := (yi_bs h_x_1).1 c1; omega⟩)
  · refine Ok.grd (yi_in (by omega) (by have g := (yi_bs h_x_1).2 c1; omega)) ?_
    refine Ok.bind (o_X9_isIn) (fun x_7 h_x_7 => ?_)
    refine Ok.ite (fun c2 => ?_) (fun c2 => ?_)
    · exact Ok.some (Or.inr ⟨rfl, by have g := (yi_bs h_x_7).1 c2; omega⟩)
    · exact Ok.some (Or.inl ⟨rfl, by have g := (yi_bs h_x_1).2 c1; have g2 := (yi_bs h_x_7).2 c2; omega⟩)
theorem o_X9_result_r {gRn : Nat} {gRk : Nat} {gRG : Nat → Nat → Int32} {i1 : Int32} {i2 : Int32} (k_0 : gRn ≤ 9) (k_1 : gRk ≤ 9) : Ok (fX9_result_r gRn gRk gRG i1 i2) (fun _ => True) := by
  unfold fX9_result_r
  refine Ok.bind (o_X9_isNoResult_r (by first | assumption | decide) (by first | assumption | decide)) (fun x_1 h_x_1 => ?_)
  refine Ok.bind (o_X9_start_r (by first | assumption | decide)) (fun x_5 h_x_5 => ?_)
  have f_x_5 := yi_st h_x_5
  refine Ok.ite (fun c1 => ?_) (fun c1 => ?_)
  · refine Ok.grd (by have g := (yi_bs h_x_1).1 (f_x_5.1 c1).1; exact yi_in (by omega) (by omega)) ?_
    refine Ok.grd (by have g := (yi_bs h_x_1).1 (f_x_5.1 c1).1; exact yi_in (by omega) (by omega)) ?_
    exact Ok.some trivial
  · exact Ok.some trivial
theorem o_X9_bend_r {gRn : Nat} {gRk : Nat} {gRG : Nat → Nat → Int32} {i1 : Int32} {i2 : Int32} {i3 : Int32} (k_0 : gRn ≤ 9) (k_1 : gRk ≤ 9) : Ok (fX9_bend_r gRn gRk gRG i1 i2 i3) (fun _ => True) := by
  unfold fX9_bend_r
  refine Ok.bind (o_X9_isNoResult_r (by first | assumption | first | exact (f_x_5.1 c1).2 | decide) (by first | assumption | first | exact (f_x_5.1 c1).2 | decide)) (fun x_1 h_x_1 => ?_)
  refine Ok.bind (o_X9_start_r (by first | assumption | first | exact (f_x_5.1 c1).2 | decide)) (fun x_5 h_x_5 => ?_)
  have f_x_5 := yi_st h_x_5
  refine Ok.ite (fun c1 => ?_) (fun c1 => ?_)
  · refine Ok.bind (o_X9_isIn) (fun x_10 h_x_10 => ?_)
    refine Ok.bind (P := fun _ => True) ?_ (fun r_15 h_r_15 => ?_)
    · refine Ok.ite (fun c2 => ?_) (fun c2 => ?_)
      · exact Ok.some trivial
      · exact Ok.some trivial
    refine Ok.bind (o_X9_refuse_r (by first | assumption | first | exact (f_x_5.1 c1).2 | decide) (by first | assumption | first | exact (f_x_5.1 c1).2 | decide)) (fun x_16 h_x_16 => ?_)
    refine Ok.ite (fun c3 => ?_) (fun c3 => ?_)
    · refine Ok.grd (by have g := (yi_bs h_x_1).1 (f_x_5.1 c1).1; exact yi_in (by omega) (by omega)) ?_
      refine Ok.grd (by have g := (yi_bs h_x_1).1 (f_x_5.1 c1).1; exact yi_in (by omega) (by omega)) ?_
      refine Ok.grd (by have g := (yi_bs h_x_1).1 (f_x_5.1 c1).1; exact yi_in (by omega) (by omega)) ?_
      refine Ok.grd (by have g := (yi_bs h_x_1).1 (f_x_5.1 c1).1; exact yi_in (by omega) (by omega)) ?_
      refine Ok.grd (by have g := (yi_bs h_x_1).1 (f_x_5.1 c1).1; exact yi_in (by omega) (by omega)) ?_
      exact Ok.some trivial
    · exact Ok.some trivial
  · exact Ok.some trivial
