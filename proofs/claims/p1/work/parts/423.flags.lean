theorem o_X9_isNoCell {i1 : Int32} {i2 : Int32}  : Ok (fX9_isNoCell i1 i2) (fun r => (r = 0 ∧ ((0 ≤ i1.toInt ∧ i1.toInt ≤ 4) ∧ 0 ≤ i2.toInt ∧ i2.toInt ≤ 4)) ∨ (r = 1 ∧ ¬ ((0 ≤ i1.toInt ∧ i1.toInt ≤ 4) ∧ 0 ≤ i2.toInt ∧ i2.toInt ≤ 4))) := by
  have l0 : Int32.toInt (0) = 0 := by decide
  have l4 : Int32.toInt (4) = 4 := by decide
  unfold fX9_isNoCell
  refine Ok.bind (o_X9_isIn) (fun x_1 h_x_1 => ?_)
  refine Ok.ite (fun c1 => ?_) (fun c1 => ?_)
  · exact Ok.some (Or.inr ⟨rfl, by have g := (yi_bs h_x_1).1 c1; omega⟩)
  · refine Ok.bind (o_X9_isIn) (fun x_6 h_x_6 => ?_)
    refine Ok.ite (fun c2 => ?_) (fun c2 => ?_)
    · exact Ok.some (Or.inr ⟨rfl, by have g := (yi_bs h_x_6).1 c2; omega⟩)
    · exact Ok.some (Or.inl ⟨rfl, by have g := (yi_bs h_x_1).2 c1; have g2 := (yi_bs h_x_6).2 c2; omega⟩)
theorem o_X9_kind_i {gwg : Int32} {gws : Int32} {i1 : Int32} (bo_gws : Bo gws) : Ok (fX9_kind_i gwg gws i1) (fun r => Bo r.2.2.2) := by
  have l0 : Int32.toInt (0) = 0 := by decide
  have l2 : Int32.toInt (2) = 2 := by decide
  unfold fX9_kind_i
  refine Ok.bind (o_X9_isIn) (fun x_1 h_x_1 => ?_)
  refine Ok.bind (P := fun r => (r = 0 ∧ (0 ≤ i1.toInt ∧ i1.toInt ≤ 2)) ∨ (r = 1 ∧ ¬ (0 ≤ i1.toInt ∧ i1.toInt ≤ 2))) ?_ (fun r_6 h_r_6 => ?_)
  · refine Ok.ite (fun c1 => ?_) (fun c1 => ?_)
    · exact Ok.some (Or.inr ⟨rfl, by have g := (yi_bs h_x_1).1 c1; omega⟩)
    · exact Ok.some (Or.inl ⟨rfl, by have g := (yi_bs h_x_1).2 c1; omega⟩)
  refine Ok.bind (o_X9_start_i (by first | assumption | decide)) (fun x_7 h_x_7 => ?_)
  refine Ok.ite (fun c2 => ?_) (fun c2 => ?_)
  · refine Ok.bind (P := fun r => Bo r) ?_ (fun r_13 h_r_13 => ?_)
    · refine Ok.ite (fun c3 => ?_) (fun c3 => ?_)
      · exact Ok.some (Or.inr rfl)
      · exact Ok.some (Or.inl rfl)
    refine Ok.grd (yi_and bo_gws h_r_13) ?_
    exact Ok.some (yi_and bo_gws h_r_13)
  · exact Ok.some bo_gws
theorem o_X9_kind_r {gwg : Int32} {gws : Int32} {i1 : Int32} (bo_gws : Bo gws) : Ok (fX9_kind_r gwg gws i1) (fun r => Bo r.2.2.2) := by
  have l0 : Int32.toInt (0) = 0 := by decide
  have l2 : Int32.toInt (2) = 2 := by decide
  unfold fX9_kind_r
  refine Ok.bind (o_X9_isIn) (fun x_1 h_x_1 => ?_)
  refine Ok.bind (P := fun r => (r = 0 ∧ (0 ≤ i1.toInt ∧ i1.toInt ≤ 2)) ∨ (r = 1 ∧ ¬ (0 ≤ i1.toInt ∧ i1.toInt ≤ 2))) ?_ (fun r_6 h_r_6 => ?_)
  · refine Ok.ite (fun c1 => ?_) (fun c1 => ?_)
    · exact Ok.some (Or.inr ⟨rfl, by have g := (yi_bs h_x_1).1 c1; omega⟩)
    · exact Ok.some (Or.inl ⟨rfl, by have g := (yi_bs h_x_1).2 c1; omega⟩)
  refine Ok.bind (o_X9_start_r (by first | assumption | decide)) (fun x_7 h_x_7 => ?_)
  refine Ok.ite (fun c2 => ?_) (fun c2 => ?_)
  · refine Ok.bind (P := fun r => Bo r) ?_ (fun r_13 h_r_13 => ?_)
    · refine Ok.ite (fun c3 => ?_) (fun c3 => ?_)
      · exact Ok.some (Or.inr rfl)
      · exact Ok.some (Or.inl rfl)
    refine Ok.grd (yi_and bo_gws h_r_13) ?_
    exact Ok.some (yi_and bo_gws h_r_13)
  · exact Ok.some bo_gws
theorem o_X9_checked_i {gwg : Int32} {gws : Int32} {i1 : Int32} (bo_gws : Bo gws) (bo_i1 : Bo i1) : Ok (fX9_checked_i gwg gws i1) (fun r => Bo r.2.2) := by
  unfold fX9_checked_i
  refine Ok.bind (P := fun r => Bo r) ?_ (fun r_3 h_r_3 => ?_)
  · refine Ok.ite (fun c1 => ?_) (fun c1 => ?_)
    · exact Ok.some (Or.inl rfl)
    · refine Ok.ite (fun c2 => ?_) (fun c2 => ?_)
      · exact Ok.some (Or.inl rfl)
      · exact Ok.some (Or.inr rfl)
  refine Ok.bind (o_X9_start_i (by first | assumption | decide)) (fun x_4 h_x_4 => ?_)
  refine Ok.ite (fun c3 => ?_) (fun c3 => ?_)
  · refine Ok.grd bo_i1 ?_
    refine Ok.grd bo_gws ?_
    exact Ok.some bo_i1
  · exact Ok.some bo_gws
theorem o_X9_checked_r {gwg : Int32} {gws : Int32} {i1 : Int32} (bo_gws : Bo gws) (bo_i1 : Bo i1) : Ok (fX9_checked_r gwg gws i1) (fun r => Bo r.2.2) := by
  unfold fX9_checked_r
  refine Ok.bind (P := fun r => Bo r) ?_ (fun r_3 h_r_3 => ?_)
  · refine Ok.ite (fun c1 => ?_) (fun c1 => ?_)
    · exact Ok.some (Or.inl rfl)
    · refine Ok.ite (fun c2 => ?_) (fun c2 => ?_)
      · exact Ok.some (Or.inl rfl)
      · exact Ok.some (Or.inr rfl)
  refine Ok.bind (o_X9_start_r (by first | assumption | decide)) (fun x_4 h_x_4 => ?_)
  refine Ok.ite (fun c3 => ?_) (fun c3 => ?_)
  · refine Ok.grd bo_i1 ?_
    refine Ok.grd bo_gws ?_
    exact Ok.some bo_i1
  · exact Ok.some bo_gws
theorem o_X9_broken_i {gBG : Nat → Nat → Int32} {gKG : Nat → Nat → Int32} {i1 : Int32} {i2 : Int32} {isb : Int32} (bo_isb : Bo isb) (k_1 : BG gBG) (k_2 : BG gKG) : Ok (fX9_broken_i gBG gKG i1 i2 isb) (fun r => BG r.2.2.1 ∧ BG r.2.2.2) := by
  unfold fX9_broken_i
  refine Ok.bind (o_X9_isNoCell) (fun x_1 h_x_1 => ?_)
  refine Ok.bind (o_X9_start_i (by first | assumption | decide)) (fun x_5 h_x_5 => ?_)
  have f_x_5 := yi_st h_x_5
  refine Ok.ite (fun c1 => ?_) (fun c1 => ?_)
  · refine Ok.grd (by have g := (yi_bs h_x_1).1 (f_x_5.1 c1).1; exact yi_in (by omega) (by omega)) ?_
    refine Ok.grd (by have g := (yi_bs h_x_1).1 (f_x_5.1 c1).1; exact yi_in (by omega) (by omega)) ?_
    refine Ok.grd (by have g := (yi_bs h_x_1).1 (f_x_5.1 c1).1; exact yi_in (by omega) (by omega)) ?_
    refine Ok.grd (by have g := (yi_bs h_x_1).1 (f_x_5.1 c1).1; exact yi_in (by omega) (by omega)) ?_
    refine Ok.grd (by have g := (yi_bs h_x_1).1 (f_x_5.1 c1).1; exact yi_in (by omega) (by omega)) ?_
    refine Ok.bind (o_X9_count_i (by first | assumption | decide) (by first | assumption | decide)) (fun x_15 h_x_15 => ?_)
    exact Ok.some ⟨yi_bg k_1 (yi_nb bo_isb), yi_bg k_2 (yi_nb (yi_and (k_2 _ _) bo_isb))⟩
  · exact Ok.some ⟨k_1, k_2⟩
theorem o_X9_broken_r {gBG : Nat → Nat → Int32} {gKG : Nat → Nat → Int32} {i1 : Int32} {i2 : Int32} {isb : Int32} (bo_isb : Bo isb) (k_1 : BG gBG) (k_2 : BG gKG) : Ok (fX9_broken_r gBG gKG i1 i2 isb) (fun r => BG r.2.2.1 ∧ BG r.2.2.2) := by
  unfold fX9_broken_r
  refine Ok.bind (o_X9_isNoCell) (fun x_1 h_x_1 => ?_)
  refine Ok.bind (o_X9_start_r (by first | assumption | decide)) (fun x_5 h_x_5 => ?_)
  have f_x_5 := yi_st h_x_5
  refine Ok.ite (fun c1 => ?_) (fun c1 => ?_)
  · refine Ok.grd (by have g := (yi_bs h_x_1).1 (f_x_5.1 c1).1; exact yi_in (by omega) (by omega)) ?_
    refine Ok.grd (by have g := (yi_bs h_x_1).1 (f_x_5.1 c1).1; exact yi_in (by omega) (by omega)) ?_
    refine Ok.grd (by have g := (yi_bs h_x_1).1 (f_x_5.1 c1).1; exact yi_in (by omega) (by omega)) ?_
    refine Ok.grd (by have g := (yi_bs h_x_1).1 (f_x_5.1 c1).1; exact yi_in (by omega) (by omega)) ?_
    refine Ok.grd (by have g := (yi_bs h_x_1).1 (f_x_5.1 c1).1; exact yi_in (by omega) (by omega)) ?_
    refine Ok.bind (o_X9_count_r (by first | assumption | decide) (by first | assumption | decide)) (fun x_15 h_x_15 => ?_)
    exact Ok.some ⟨yi_bg k_1 (yi_nb bo_isb), yi_bg k_2 (yi_nb (yi_and (k_2 _ _) bo_isb))⟩
  · exact Ok.some ⟨k_1, k_2⟩
