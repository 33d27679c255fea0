theorem o_X9_lay_i {i1 : Int32} {i2 : Int32} {i3 : Int32} (s9_i1 : S9 i1) (s9_i2 : S9 i2) (s9_i3 : S9 i3) : Ok (fX9_lay_i i1 i2 i3) (fun r => r = (i1, i2, i3, i1.toNatClampNeg, i2.toNatClampNeg, (fun _ _ => 0), i2.toNatClampNeg, i3.toNatClampNeg, (fun _ _ => 0))) := by
  unfold fX9_lay_i
  refine Ok.grd ⟨(yi_g9 s9_i1).1, (yi_g9 s9_i2).1, (yi_g9 s9_i1).2, (yi_g9 s9_i2).2⟩ ?_
  refine Ok.grd ⟨(yi_g9 s9_i2).1, (yi_g9 s9_i3).1, (yi_g9 s9_i2).2, (yi_g9 s9_i3).2⟩ ?_
  exact Ok.some rfl
theorem o_X9_lay_r {i1 : Int32} {i2 : Int32} {i3 : Int32} (s9_i1 : S9 i1) (s9_i2 : S9 i2) (s9_i3 : S9 i3) : Ok (fX9_lay_r i1 i2 i3) (fun r => r = (i1, i2, i3, i1.toNatClampNeg, i2.toNatClampNeg, (fun _ _ => 0), i2.toNatClampNeg, i3.toNatClampNeg, (fun _ _ => 0))) := by
  unfold fX9_lay_r
  refine Ok.grd ⟨(yi_g9 s9_i1).1, (yi_g9 s9_i2).1, (yi_g9 s9_i1).2, (yi_g9 s9_i2).2⟩ ?_
  refine Ok.grd ⟨(yi_g9 s9_i2).1, (yi_g9 s9_i3).1, (yi_g9 s9_i2).2, (yi_g9 s9_i3).2⟩ ?_
  exact Ok.some rfl
theorem o_X9_lay_0 {i1 : Int32} {i2 : Int32} {i3 : Int32} (s9_i1 : S9 i1) (s9_i2 : S9 i2) (s9_i3 : S9 i3) : Ok (fX9_lay_0 i1 i2 i3) (fun r => r = (i1, i2, i3, i1.toNatClampNeg, i2.toNatClampNeg, (fun _ _ => 0), i2.toNatClampNeg, i3.toNatClampNeg, (fun _ _ => 0))) := by
  unfold fX9_lay_0
  refine Ok.grd ⟨(yi_g9 s9_i1).1, (yi_g9 s9_i2).1, (yi_g9 s9_i1).2, (yi_g9 s9_i2).2⟩ ?_
  refine Ok.grd ⟨(yi_g9 s9_i2).1, (yi_g9 s9_i3).1, (yi_g9 s9_i2).2, (yi_g9 s9_i3).2⟩ ?_
  exact Ok.some rfl
theorem o_X9_shape_i {gwr : Int32} {gwk : Int32} {gwc : Int32} {gwan : Nat} {gwak : Nat} {gwaG : Nat → Nat → Int32} {gwbn : Nat} {gwbk : Nat} {gwbG : Nat → Nat → Int32} {i1 : Int32} {i2 : Int32} {i3 : Int32} (s9_i1 : S9 i1) (s9_i2 : S9 i2) (s9_i3 : S9 i3) (k_3 : gwan ≤ 9) (k_4 : gwak ≤ 9) (k_5 : gwbn ≤ 9) (k_6 : gwbk ≤ 9) : Ok (fX9_shape_i gwr gwk gwc gwan gwak gwaG gwbn gwbk gwbG i1 i2 i3) (fun r => (¬ ((1 ≤ i1.toInt ∧ i1.toInt ≤ 8) ∧ (1 ≤ i3.toInt ∧ i3.toInt ≤ 8) ∧ 1 ≤ i2.toInt ∧ i2.toInt ≤ 6) ∧ r.2.1 = 1 ∧ r.2.2 = (gwr, gwk, gwc, gwan, gwak, gwaG, gwbn, gwbk, gwbG)) ∨ (((1 ≤ i1.toInt ∧ i1.toInt ≤ 8) ∧ (1 ≤ i3.toInt ∧ i3.toInt ≤ 8) ∧ 1 ≤ i2.toInt ∧ i2.toInt ≤ 6) ∧ r.2.1 = 0 ∧ r.2.2 = (i1, i2, i3, i1.toNatClampNeg, i2.toNatClampNeg, (fun _ _ => 0), i2.toNatClampNeg, i3.toNatClampNeg, (fun _ _ => 0)) ∧ ∃ a b, fX9_others gwan gwak gwaG = some a ∧ fX9_others gwbn gwbk gwbG = some b ∧ r.1 = a + b)) := by
  have l1 : Int32.toInt (1) = 1 := by decide
  have l8 : Int32.toInt (8) = 8 := by decide
  have l6 : Int32.toInt (6) = 6 := by decide
  unfold fX9_shape_i
  refine Ok.bind (o_X9_isIn) (fun x_1 h_x_1 => ?_)
  refine Ok.bind (P := fun r => (r = 0 ∧ ((1 ≤ i1.toInt ∧ i1.toInt ≤ 8) ∧ (1 ≤ i3.toInt ∧ i3.toInt ≤ 8) ∧ 1 ≤ i2.toInt ∧ i2.toInt ≤ 6)) ∨ (r = 1 ∧ ¬ ((1 ≤ i1.toInt ∧ i1.toInt ≤ 8) ∧ (1 ≤ i3.toInt ∧ i3.toInt ≤ 8) ∧ 1 ≤ i2.toInt ∧ i2.toInt ≤ 6))) ?_ (fun r_16 h_r_16 => ?_)
  · refine Ok.ite (fun c1 => ?_) (fun c1 => ?_)
    · exact Ok.some (Or.inr ⟨rfl, by have g := (yi_bs h_x_1).1 c1; omega⟩)
    · refine Ok.bind (o_X9_isIn) (fun x_40 h_x_40 => ?_)
      refine Ok.ite (fun c2 => ?_) (fun c2 => ?_)
      · exact Ok.some (Or.inr ⟨rfl, by have g := (yi_bs h_x_40).1 c2; omega⟩)
      · refine Ok.bind (o_X9_isIn) (fun x_46 h_x_46 => ?_)
        refine Ok.ite (fun c3 => ?_) (fun c3 => ?_)
        · exact Ok.some (Or.inr ⟨rfl, by have g := (yi_bs h_x_46).1 c3; omega⟩)
        · exact Ok.some (Or.inl ⟨rfl, by have g := (yi_bs h_x_1).2 c1; have g2 := (yi_bs h_x_40).2 c2; have g3 := (yi_bs h_x_46).2 c3; omega⟩)
  refine Ok.bind (o_X9_start_i (by first | assumption | first | decide | omega)) (fun x_17 h_x_17 => ?_)
  have f_x_17 := yi_st h_x_17
  refine Ok.ite (fun c4 => ?_) (fun c4 => ?_)
  · refine Ok.bindE (o_X9_others (by first | assumption | first | decide | omega) (by first | assumption | first | decide | omega)) (fun x_22 q_x_22 h_x_22 => ?_)
    refine Ok.bindE (o_X9_others (by first | assumption | first | decide | omega) (by first | assumption | first | decide | omega)) (fun x_26 q_x_26 h_x_26 => ?_)
    have gV := (yi_bs h_r_16).1 (f_x_17.1 c4).1
    refine Ok.bind (o_X9_lay_i s9_i1 s9_i2 s9_i3) (fun x_30 h_x_30 => ?_)
    exact (by subst h_x_30; exact Ok.some (Or.inr ⟨gV, (f_x_17.1 c4).2, rfl, x_22, x_26, q_x_22, q_x_26, rfl⟩))
  · exact Ok.some (Or.inl ⟨(yi_bs h_r_16).2 (f_x_17.2 c4).1, (f_x_17.2 c4).2, rfl⟩)
theorem o_X9_shape_r {gwr : Int32} {gwk : Int32} {gwc : Int32} {gwan : Nat} {gwak : Nat} {gwaG : Nat → Nat → Int32} {gwbn : Nat} {gwbk : Nat} {gwbG : Nat → Nat → Int32} {i1 : Int32} {i2 : Int32} {i3 : Int32} (s9_i1 : S9 i1) (s9_i2 : S9 i2) (s9_i3 : S9 i3) (k_3 : gwan ≤ 9) (k_4 : gwak ≤ 9) (k_5 : gwbn ≤ 9) (k_6 : gwbk ≤ 9) : Ok (fX9_shape_r gwr gwk gwc gwan gwak gwaG gwbn gwbk gwbG i1 i2 i3) (fun r => (¬ ((1 ≤ i1.toInt ∧ i1.toInt ≤ 8) ∧ (1 ≤ i3.toInt ∧ i3.toInt ≤ 8) ∧ 1 ≤ i2.toInt ∧ i2.toInt ≤ 6) ∧ r.2.1 = 1 ∧ r.2.2 = (gwr, gwk, gwc, gwan, gwak, gwaG, gwbn, gwbk, gwbG)) ∨ (((1 ≤ i1.toInt ∧ i1.toInt ≤ 8) ∧ (1 ≤ i3.toInt ∧ i3.toInt ≤ 8) ∧ 1 ≤ i2.toInt ∧ i2.toInt ≤ 6) ∧ r.2.1 = 0 ∧ r.2.2 = (i1, i2, i3, i1.toNatClampNeg, i2.toNatClampNeg, (fun _ _ => 0), i2.toNatClampNeg, i3.toNatClampNeg, (fun _ _ => 0)) ∧ ∃ a b, fX9_others gwan gwak gwaG = some a ∧ fX9_others gwbn gwbk gwbG = some b ∧ r.1 = a + b)) := by
  have l1 : Int32.toInt (1) = 1 := by decide
  have l8 : Int32.toInt (8) = 8 := by decide
  have l6 : Int32.toInt (6) = 6 := by decide
  unfold fX9_shape_r
  refine Ok.bind (o_X9_isIn) (fun x_1 h_x_1 => ?_)
  refine Ok.bind (P := fun r => (r = 0 ∧ ((1 ≤ i1.toInt ∧ i1.toInt ≤ 8) ∧ (1 ≤ i3.toInt ∧ i3.toInt ≤ 8) ∧ 1 ≤ i2.toInt ∧ i2.toInt ≤ 6)) ∨ (r = 1 ∧ ¬ ((1 ≤ i1.toInt ∧ i1.toInt ≤ 8) ∧ (1 ≤ i3.toInt ∧ i3.toInt ≤ 8) ∧ 1 ≤ i2.toInt ∧ i2.toInt ≤ 6))) ?_ (fun r_16 h_r_16 => ?_)
  · refine Ok.ite (fun c1 => ?_) (fun c1 => ?_)
    · exact Ok.some (Or.inr ⟨rfl, by have g := (yi_bs h_x_1).1 c1; omega⟩)
    · refine Ok.bind (o_X9_isIn) (fun x_40 h_x_40 => ?_)
      refine Ok.ite (fun c2 => ?_) (fun c2 => ?_)
      · exact Ok.some (Or.inr ⟨rfl, by have g := (yi_bs h_x_40).1 c2; omega⟩)
      · refine Ok.bind (o_X9_isIn) (fun x_46 h_x_46 => ?_)
        refine Ok.ite (fun c3 => ?_) (fun c3 => ?_)
        · exact Ok.some (Or.inr ⟨rfl, by have g := (yi_bs h_x_46).1 c3; omega⟩)
        · exact Ok.some (Or.inl ⟨rfl, by have g := (yi_bs h_x_1).2 c1; have g2 := (yi_bs h_x_40).2 c2; have g3 := (yi_bs h_x_46).2 c3; omega⟩)
  refine Ok.bind (o_X9_start_r (by first | assumption | first | decide | omega)) (fun x_17 h_x_17 => ?_)
  have f_x_17 := yi_st h_x_17
  refine Ok.ite (fun c4 => ?_) (fun c4 => ?_)
  · refine Ok.bindE (o_X9_others (by first | assumption | first | decide | omega) (by first | assumption | first | decide | omega)) (fun x_22 q_x_22 h_x_22 => ?_)
    refine Ok.bindE (o_X9_others (by first | assumption | first | decide | omega) (by first | assumption | first | decide | omega)) (fun x_26 q_x_26 h_x_26 => ?_)
    have gV := (yi_bs h_r_16).1 (f_x_17.1 c4).1
    refine Ok.bind (o_X9_lay_r s9_i1 s9_i2 s9_i3) (fun x_30 h_x_30 => ?_)
    exact (by subst h_x_30; exact Ok.some (Or.inr ⟨gV, (f_x_17.1 c4).2, rfl, x_22, x_26, q_x_22, q_x_26, rfl⟩))
  · exact Ok.some (Or.inl ⟨(yi_bs h_r_16).2 (f_x_17.2 c4).1, (f_x_17.2 c4).2, rfl⟩)
