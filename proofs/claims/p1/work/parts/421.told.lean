theorem o_X9_left_i {gwr : Int32} {gwk : Int32} {gwan : Nat} {gwak : Nat} {gwaG : Nat → Nat → Int32} {i1 : Int32} {i2 : Int32} {i3 : Int32} (s9_gwr : S9 gwr) (s9_gwk : S9 gwk) (k_2 : (gwan : Int) = gwr.toInt) (k_3 : (gwak : Int) = gwk.toInt) : Ok (fX9_left_i gwr gwk gwan gwak gwaG i1 i2 i3) (fun r => (¬ (0 ≤ i1.toInt ∧ i1.toInt < gwr.toInt ∧ 0 ≤ i2.toInt ∧ i2.toInt < gwk.toInt) ∧ r.2.1 = 1 ∧ r.2.2 = gwaG) ∨ ((0 ≤ i1.toInt ∧ i1.toInt < gwr.toInt ∧ 0 ≤ i2.toInt ∧ i2.toInt < gwk.toInt) ∧ ¬ (-9 ≤ i3.toInt ∧ i3.toInt ≤ 9) ∧ r.2.1 = 2 ∧ r.2.2 = gwaG) ∨ ((0 ≤ i1.toInt ∧ i1.toInt < gwr.toInt ∧ 0 ≤ i2.toInt ∧ i2.toInt < gwk.toInt) ∧ (-9 ≤ i3.toInt ∧ i3.toInt ≤ 9) ∧ r.2.1 = 0 ∧ r.2.2 = upg gwaG i1.toNatClampNeg i2.toNatClampNeg i3)) := by
  have l0 : Int32.toInt (0) = 0 := by decide
  have lm9 : Int32.toInt (-9) = -9 := by decide
  have l9 : Int32.toInt (9) = 9 := by decide
  have m1 := yi_m1 s9_gwr.1 (by omega)
  have m2 := yi_m1 s9_gwk.1 (by omega)
  unfold fX9_left_i
  refine Ok.bind (o_X9_isIn) (fun x_1 h_x_1 => ?_)
  refine Ok.bind (P := fun r => (r = 0 ∧ (0 ≤ i1.toInt ∧ i1.toInt < gwr.toInt ∧ 0 ≤ i2.toInt ∧ i2.toInt < gwk.toInt)) ∨ (r = 1 ∧ ¬ (0 ≤ i1.toInt ∧ i1.toInt < gwr.toInt ∧ 0 ≤ i2.toInt ∧ i2.toInt < gwk.toInt))) ?_ (fun r_11 h_r_11 => ?_)
  · refine Ok.ite (fun c1 => ?_) (fun c1 => ?_)
    · exact Ok.some (Or.inr ⟨rfl, by have g := (yi_bs h_x_1).1 c1; omega⟩)
    · refine Ok.bind (o_X9_isIn) (fun x_37 h_x_37 => ?_)
      refine Ok.ite (fun c2 => ?_) (fun c2 => ?_)
      · exact Ok.some (Or.inr ⟨rfl, by have g := (yi_bs h_x_37).1 c2; omega⟩)
      · exact Ok.some (Or.inl ⟨rfl, by have g := (yi_bs h_x_1).2 c1; have g2 := (yi_bs h_x_37).2 c2; omega⟩)
  refine Ok.bind (o_X9_start_i (by first | assumption | first | exact (f_x_12.1 c3).2 | decide)) (fun x_12 h_x_12 => ?_)
  have f_x_12 := yi_st h_x_12
  refine Ok.ite (fun c3 => ?_) (fun c3 => ?_)
  · refine Ok.bind (o_X9_isIn) (fun x_17 h_x_17 => ?_)
    refine Ok.bind (P := fun r => (r = 0 ∧ (-9 ≤ i3.toInt ∧ i3.toInt ≤ 9)) ∨ (r = 1 ∧ ¬ (-9 ≤ i3.toInt ∧ i3.toInt ≤ 9))) ?_ (fun r_22 h_r_22 => ?_)
    · refine Ok.ite (fun c4 => ?_) (fun c4 => ?_)
      · exact Ok.some (Or.inr ⟨rfl, by have g := (yi_bs h_x_17).1 c4; omega⟩)
      · exact Ok.some (Or.inl ⟨rfl, by have g := (yi_bs h_x_17).2 c4; omega⟩)
    refine Ok.bind (o_X9_refuse_i (by first | assumption | first | exact (f_x_12.1 c3).2 | decide) (by first | assumption | first | exact (f_x_12.1 c3).2 | decide)) (fun x_23 h_x_23 => ?_)
    have f_x_23 := yi_st h_x_23
    have gV := (yi_bs h_r_11).1 (f_x_12.1 c3).1
    refine Ok.ite (fun c5 => ?_) (fun c5 => ?_)
    · refine Ok.grd (yi_in (by omega) (by omega)) ?_
      refine Ok.grd (yi_in (by omega) (by omega)) ?_
      refine Ok.grd (yi_in (by omega) (by omega)) ?_
      refine Ok.grd (yi_in (by omega) (by omega)) ?_
      exact Ok.some (Or.inr (Or.inr ⟨gV, (yi_bs h_r_22).1 (f_x_23.1 c5).1, (f_x_23.1 c5).2, rfl⟩))
    · exact Ok.some (Or.inr (Or.inl ⟨gV, (yi_bs h_r_22).2 (f_x_23.2 c5).1, (f_x_23.2 c5).2, rfl⟩))
  · exact Ok.some (Or.inl ⟨(yi_bs h_r_11).2 (f_x_12.2 c3).1, (f_x_12.2 c3).2, rfl⟩)
theorem o_X9_left_r {gwr : Int32} {gwk : Int32} {gwan : Nat} {gwak : Nat} {gwaG : Nat → Nat → Int32} {i1 : Int32} {i2 : Int32} {i3 : Int32} (s9_gwr : S9 gwr) (s9_gwk : S9 gwk) (k_2 : (gwan : Int) = gwr.toInt) (k_3 : (gwak : Int) = gwk.toInt) : Ok (fX9_left_r gwr gwk gwan gwak gwaG i1 i2 i3) (fun r => (¬ (0 ≤ i1.toInt ∧ i1.toInt < gwr.toInt ∧ 0 ≤ i2.toInt ∧ i2.toInt < gwk.toInt) ∧ r.2.1 = 1 ∧ r.2.2 = gwaG) ∨ ((0 ≤ i1.toInt ∧ i1.toInt < gwr.toInt ∧ 0 ≤ i2.toInt ∧ i2.toInt < gwk.toInt) ∧ ¬ (-9 ≤ i3.toInt ∧ i3.toInt ≤ 9) ∧ r.2.1 = 2 ∧ r.2.2 = gwaG) ∨ ((0 ≤ i1.toInt ∧ i1.toInt < gwr.toInt ∧ 0 ≤ i2.toInt ∧ i2.toInt < gwk.toInt) ∧ (-9 ≤ i3.toInt ∧ i3.toInt ≤ 9) ∧ r.2.1 = 0 ∧ r.2.2 = upg gwaG i1.toNatClampNeg i2.toNatClampNeg i3)) := by
  have l0 : Int32.toInt (0) = 0 := by decide
  have lm9 : Int32.toInt (-9) = -9 := by decide
  have l9 : Int32.toInt (9) = 9 := by decide
  have m1 := yi_m1 s9_gwr.1 (by omega)
  have m2 := yi_m1 s9_gwk.1 (by omega)
  unfold fX9_left_r
  refine Ok.bind (o_X9_isIn) (fun x_1 h_x_1 => ?_)
  refine Ok.bind (P := fun r => (r = 0 ∧ (0 ≤ i1.toInt ∧ i1.toInt < gwr.toInt ∧ 0 ≤ i2.toInt ∧ i2.toInt < gwk.toInt)) ∨ (r = 1 ∧ ¬ (0 ≤ i1.toInt ∧ i1.toInt < gwr.toInt ∧ 0 ≤ i2.toInt ∧ i2.toInt < gwk.toInt))) ?_ (fun r_11 h_r_11 => ?_)
  · refine Ok.ite (fun c1 => ?_) (fun c1 => ?_)
    · exact Ok.some (Or.inr ⟨rfl, by have g := (yi_bs h_x_1).1 c1; omega⟩)
    · refine Ok.bind (o_X9_isIn) (fun x_37 h_x_37 => ?_)
      refine Ok.ite (fun c2 => ?_) (fun c2 => ?_)
      · exact Ok.some (Or.inr ⟨rfl, by have g := (yi_bs h_x_37).1 c2; omega⟩)
      · exact Ok.some (Or.inl ⟨rfl, by have g := (yi_bs h_x_1).2 c1; have g2 := (yi_bs h_x_37).2 c2; omega⟩)
  refine Ok.bind (o_X9_start_r (by first | assumption | first | exact (f_x_12.1 c3).2 | decide)) (fun x_12 h_x_12 => ?_)
  have f_x_12 := yi_st h_x_12
  refine Ok.ite (fun c3 => ?_) (fun c3 => ?_)
  · refine Ok.bind (o_X9_isIn) (fun x_17 h_x_17 => ?_)
    refine Ok.bind (P := fun r => (r = 0 ∧ (-9 ≤ i3.toInt ∧ i3.toInt ≤ 9)) ∨ (r = 1 ∧ ¬ (-9 ≤ i3.toInt ∧ i3.toInt ≤ 9))) ?_ (fun r_22 h_r_22 => ?_)
    · refine Ok.ite (fun c4 => ?_) (fun c4 => ?_)
      · exact Ok.some (Or.inr ⟨rfl, by have g := (yi_bs h_x_17).1 c4; omega⟩)
      · exact Ok.some (Or.inl ⟨rfl, by have g := (yi_bs h_x_17).2 c4; omega⟩)
    refine Ok.bind (o_X9_refuse_r (by first | assumption | first | exact (f_x_12.1 c3).2 | decide) (by first | assumption | first | exact (f_x_12.1 c3).2 | decide)) (fun x_23 h_x_23 => ?_)
    have f_x_23 := yi_st h_x_23
    have gV := (yi_bs h_r_11).1 (f_x_12.1 c3).1
    refine Ok.ite (fun c5 => ?_) (fun c5 => ?_)
    · refine Ok.grd (yi_in (by omega) (by omega)) ?_
      refine Ok.grd (yi_in (by omega) (by omega)) ?_
      refine Ok.grd (yi_in (by omega) (by omega)) ?_
      refine Ok.grd (yi_in (by omega) (by omega)) ?_
      exact Ok.some (Or.inr (Or.inr ⟨gV, (yi_bs h_r_22).1 (f_x_23.1 c5).1, (f_x_23.1 c5).2, rfl⟩))
    · exact Ok.some (Or.inr (Or.inl ⟨gV, (yi_bs h_r_22).2 (f_x_23.2 c5).1, (f_x_23.2 c5).2, rfl⟩))
  · exact Ok.some (Or.inl ⟨(yi_bs h_r_11).2 (f_x_12.2 c3).1, (f_x_12.2 c3).2, rfl⟩)
theorem o_X9_top_i {gwk : Int32} {gwc : Int32} {gwbn : Nat} {gwbk : Nat} {gwbG : Nat → Nat → Int32} {i1 : Int32} {i2 : Int32} {i3 : Int32} (s9_gwk : S9 gwk) (s9_gwc : S9 gwc) (k_2 : (gwbn : Int) = gwk.toInt) (k_3 : (gwbk : Int) = gwc.toInt) : Ok (fX9_top_i gwk gwc gwbn gwbk gwbG i1 i2 i3) (fun r => (¬ (0 ≤ i1.toInt ∧ i1.toInt < gwk.toInt ∧ 0 ≤ i2.toInt ∧ i2.toInt < gwc.toInt) ∧ r.2.1 = 1 ∧ r.2.2 = gwbG) ∨ ((0 ≤ i1.toInt ∧ i1.toInt < gwk.toInt ∧ 0 ≤ i2.toInt ∧ i2.toInt < gwc.toInt) ∧ ¬ (-9 ≤ i3.toInt ∧ i3.toInt ≤ 9) ∧ r.2.1 = 2 ∧ r.2.2 = gwbG) ∨ ((0 ≤ i1.toInt ∧ i1.toInt < gwk.toInt ∧ 0 ≤ i2.toInt ∧ i2.toInt < gwc.toInt) ∧ (-9 ≤ i3.toInt ∧ i3.toInt ≤ 9) ∧ r.2.1 = 0 ∧ r.2.2 = upg gwbG i1.toNatClampNeg i2.toNatClampNeg i3)) := by
  have l0 : Int32.toInt (0) = 0 := by decide
  have lm9 : Int32.toInt (-9) = -9 := by decide
  have l9 : Int32.toInt (9) = 9 := by decide
  have m1 := yi_m1 s9_gwk.1 (by omega)
  have m2 := yi_m1 s9_gwc.1 (by omega)
  unfold fX9_top_i
  refine Ok.bind (o_X9_isIn) (fun x_1 h_x_1 => ?_)
  refine Ok.bind (P := fun r => (r = 0 ∧ (0 ≤ i1.toInt ∧ i1.toInt < gwk.toInt ∧ 0 ≤ i2.toInt ∧ i2.toInt < gwc.toInt)) ∨ (r = 1 ∧ ¬ (0 ≤ i1.toInt ∧ i1.toInt < gwk.toInt ∧ 0 ≤ i2.toInt ∧ i2.toInt < gwc.toInt))) ?_ (fun r_11 h_r_11 => ?_)
  · refine Ok.ite (fun c1 => ?_) (fun c1 => ?_)
    · exact Ok.some (Or.inr ⟨rfl, by have g := (yi_bs h_x_1).1 c1; omega⟩)
    · refine Ok.bind (o_X9_isIn) (fun x_37 h_x_37 => ?_)
      refine Ok.ite (fun c2 => ?_) (fun c2 => ?_)
      · exact Ok.some (Or.inr ⟨rfl, by have g := (yi_bs h_x_37).1 c2; omega⟩)
      · exact Ok.some (Or.inl ⟨rfl, by have g := (yi_bs h_x_1).2 c1; have g2 := (yi_bs h_x_37).2 c2; omega⟩)
  refine Ok.bind (o_X9_start_i (by first | assumption | first | exact (f_x_12.1 c3).2 | decide)) (fun x_12 h_x_12 => ?_)
  have f_x_12 := yi_st h_x_12
  refine Ok.ite (fun c3 => ?_) (fun c3 => ?_)
  · refine Ok.bind (o_X9_isIn) (fun x_17 h_x_17 => ?_)
    refine Ok.bind (P := fun r => (r = 0 ∧ (-9 ≤ i3.toInt ∧ i3.toInt ≤ 9)) ∨ (r = 1 ∧ ¬ (-9 ≤ i3.toInt ∧ i3.toInt ≤ 9))) ?_ (fun r_22 h_r_22 => ?_)
    · refine Ok.ite (fun c4 => ?_) (fun c4 => ?_)
      · exact Ok.some (Or.inr ⟨rfl, by have g := (yi_bs h_x_17).1 c4; omega⟩)
      · exact Ok.some (Or.inl ⟨rfl, by have g := (yi_bs h_x_17).2 c4; omega⟩)
    refine Ok.bind (o_X9_refuse_i (by first | assumption | first | exact (f_x_12.1 c3).2 | decide) (by first | assumption | first | exact (f_x_12.1 c3).2 | decide)) (fun x_23 h_x_23 => ?_)
    have f_x_23 := yi_st h_x_23
    have gV := (yi_bs h_r_11).1 (f_x_12.1 c3).1
    refine Ok.ite (fun c5 => ?_) (fun c5 => ?_)
    · refine Ok.grd (yi_in (by omega) (by omega)) ?_
      refine Ok.grd (yi_in (by omega) (by omega)) ?_
      refine Ok.grd (yi_in (by omega) (by omega)) ?_
      refine Ok.grd (yi_in (by omega) (by omega)) ?_
      exact Ok.some (Or.inr (Or.inr ⟨gV, (yi_bs h_r_22).1 (f_x_23.1 c5).1, (f_x_23.1 c5).2, rfl⟩))
    · exact Ok.some (Or.inr (Or.inl ⟨gV, (yi_bs h_r_22).2 (f_x_23.2 c5).1, (f_x_23.2 c5).2, rfl⟩))
  · exact Ok.some (Or.inl ⟨(yi_bs h_r_11).2 (f_x_12.2 c3).1, (f_x_12.2 c3).2, rfl⟩)
theorem o_X9_top_r {gwk : Int32} {gwc : Int32} {gwbn : Nat} {gwbk : Nat} {gwbG : Nat → Nat → Int32} {i1 : Int32} {i2 : Int32} {i3 : Int32} (s9_gwk : S9 gwk) (s9_gwc : S9 gwc) (k_2 : (gwbn : Int) = gwk.toInt) (k_3 : (gwbk : Int) = gwc.toInt) : Ok (fX9_top_r gwk gwc gwbn gwbk gwbG i1 i2 i3) (fun r => (¬ (0 ≤ i1.toInt ∧ i1.toInt < gwk.toInt ∧ 0 ≤ i2.toInt ∧ i2.toInt < gwc.toInt) ∧ r.2.1 = 1 ∧ r.2.2 = gwbG) ∨ ((0 ≤ i1.toInt ∧ i1.toInt < gwk.toInt ∧ 0 ≤ i2.toInt ∧ i2.toInt < gwc.toInt) ∧ ¬ (-9 ≤ i3.toInt ∧ i3.toInt ≤ 9) ∧ r.2.1 = 2 ∧ r.2.2 = gwbG) ∨ ((0 ≤ i1.toInt ∧ i1.toInt < gwk.toInt ∧ 0 ≤ i2.toInt ∧ i2.toInt < gwc.toInt) ∧ (-9 ≤ i3.toInt ∧ i3.toInt ≤ 9) ∧ r.2.1 = 0 ∧ r.2.2 = upg gwbG i1.toNatClampNeg i2.toNatClampNeg i3)) := by
  have l0 : Int32.toInt (0) = 0 := by decide
  have lm9 : Int32.toInt (-9) = -9 := by decide
  have l9 : Int32.toInt (9) = 9 := by decide
  have m1 := yi_m1 s9_gwk.1 (by omega)
  have m2 := yi_m1 s9_gwc.1 (by omega)
  unfold fX9_top_r
  refine Ok.bind (o_X9_isIn) (fun x_1 h_x_1 => ?_)
  refine Ok.bind (P := fun r => (r = 0 ∧ (0 ≤ i1.toInt ∧ i1.toInt < gwk.toInt ∧ 0 ≤ i2.toInt ∧ i2.toInt < gwc.toInt)) ∨ (r = 1 ∧ ¬ (0 ≤ i1.toInt ∧ i1.toInt < gwk.toInt ∧ 0 ≤ i2.toInt ∧ i2.toInt < gwc.toInt))) ?_ (fun r_11 h_r_11 => ?_)
  · refine Ok.ite (fun c1 => ?_) (fun c1 => ?_)
    · exact Ok.some (Or.inr ⟨rfl, by have g := (yi_bs h_x_1).1 c1; omega⟩)
    · refine Ok.bind (o_X9_isIn) (fun x_37 h_x_37 => ?_)
      refine Ok.ite (fun c2 => ?_) (fun c2 => ?_)
      · exact Ok.some (Or.inr ⟨rfl, by have g := (yi_bs h_x_37).1 c2; omega⟩)
      · exact Ok.some (Or.inl ⟨rfl, by have g := (yi_bs h_x_1).2 c1; have g2 := (yi_bs h_x_37).2 c2; omega⟩)
  refine Ok.bind (o_X9_start_r (by first | assumption | first | exact (f_x_12.1 c3).2 | decide)) (fun x_12 h_x_12 => ?_)
  have f_x_12 := yi_st h_x_12
  refine Ok.ite (fun c3 => ?_) (fun c3 => ?_)
  · refine Ok.bind (o_X9_isIn) (fun x_17 h_x_17 => ?_)
    refine Ok.bind (P := fun r => (r = 0 ∧ (-9 ≤ i3.toInt ∧ i3.toInt ≤ 9)) ∨ (r = 1 ∧ ¬ (-9 ≤ i3.toInt ∧ i3.toInt ≤ 9))) ?_ (fun r_22 h_r_22 => ?_)
    · refine Ok.ite (fun c4 => ?_) (fun c4 => ?_)
      · exact Ok.some (Or.inr ⟨rfl, by have g := (yi_bs h_x_17).1 c4; omega⟩)
      · exact Ok.some (Or.inl ⟨rfl, by have g := (yi_bs h_x_17).2 c4; omega⟩)
    refine Ok.bind (o_X9_refuse_r (by first | assumption | first | exact (f_x_12.1 c3).2 | decide) (by first | assumption | first | exact (f_x_12.1 c3).2 | decide)) (fun x_23 h_x_23 => ?_)
    have f_x_23 := yi_st h_x_23
    have gV := (yi_bs h_r_11).1 (f_x_12.1 c3).1
    refine Ok.ite (fun c5 => ?_) (fun c5 => ?_)
    · refine Ok.grd (yi_in (by omega) (by omega)) ?_
      refine Ok.grd (yi_in (by omega) (by omega)) ?_
      refine Ok.grd (yi_in (by omega) (by omega)) ?_
      refine Ok.grd (yi_in (by omega) (by omega)) ?_
      exact Ok.some (Or.inr (Or.inr ⟨gV, (yi_bs h_r_22).1 (f_x_23.1 c5).1, (f_x_23.1 c5).2, rfl⟩))
    · exact Ok.some (Or.inr (Or.inl ⟨gV, (yi_bs h_r_22).2 (f_x_23.2 c5).1, (f_x_23.2 c5).2, rfl⟩))
  · exact Ok.some (Or.inl ⟨(yi_bs h_r_11).2 (f_x_12.2 c3).1, (f_x_12.2 c3).2, rfl⟩)
