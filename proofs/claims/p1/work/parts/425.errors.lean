theorem o_X9_off_i {gRn : Nat} {gRk : Nat} {gRG : Nat → Nat → Int32} {i1 : Int32} {i2 : Int32} (k_0 : gRn ≤ 9) (k_1 : gRk ≤ 9) (k_2 : 1 ≤ gRn) (k_3 : 0 ≤ i2.toInt) (k_4 : (i1 = 0 → i2.toInt < gRk)) (k_5 : (¬ i1 = 0 → i2.toInt < gRn)) : Ok (fX9_off_i gRn gRk gRG i1 i2) (fun _ => True) := by
  unfold fX9_off_i
  refine Ok.bind (P := fun r => (i1 = 0 → r.toInt = (gRn : Int)) ∧ (¬ i1 = 0 → r.toInt = (gRk : Int))) ?_ (fun r_3 h_r_3 => ?_)
  · refine Ok.ite (fun c1 => ?_) (fun c1 => ?_)
    · exact Ok.some ⟨fun _ => yi_nI (by omega), fun z => absurd c1 z⟩
    · refine Ok.grd (yi_in (show (0 : Int) ≤ Int32.toInt 0 by decide) (by have : Int32.toInt 0 = 0 := (by decide); omega)) ?_
      exact Ok.some ⟨fun z => absurd z c1, fun _ => yi_nI (by omega)⟩
  have f_r_3 : r_3.toInt ≤ 9 := by
    by_cases z : i1 = 0
    · rw [h_r_3.1 z]; omega
    · rw [h_r_3.2 z]; omega
  refine Ok.bind (Ok.ct (P := fun _ => True) (fun _ => True) (fun s_4 => s_4.2) 200 trivial (show (0 : Int) ≤ Int32.toInt 0 by decide) (by decide) (fun s_4 i_s_4 z_s_4 => ?_)) (fun b_4 h_b_4 => ?_)
  · refine Ok.ite (fun c3 => ?_) (fun c3 => ?_)
    · have d3 : r_3.toInt ≤ s_4.2.toInt := by rw [yi_le] at c3; exact c3
      exact Ok.some trivial
    · have d3 : ¬ r_3.toInt ≤ s_4.2.toInt := by rw [yi_le] at c3; exact c3
      refine Ok.bind (P := fun _ => True) ?_ (fun r_12 h_r_12 => ?_)
      · refine Ok.ite (fun c4 => ?_) (fun c4 => ?_)
        · refine Ok.grd (yi_in (by omega) (by have := h_r_3.1 c4; omega)) ?_
          refine Ok.grd (yi_in k_3 (k_4 c4)) ?_
          exact Ok.some trivial
        · refine Ok.grd (yi_in k_3 (k_5 c4)) ?_
          refine Ok.grd (yi_in (by omega) (by have := h_r_3.2 c4; omega)) ?_
          exact Ok.some trivial
      refine Ok.bind (P := fun _ => True) ?_ (fun r_14 h_r_14 => ?_)
      · refine Ok.ite (fun c5 => ?_) (fun c5 => ?_)
        · exact Ok.some trivial
        · exact Ok.some trivial
      exact Ok.some ⟨yi_nle c3 (by first | exact h_r_3 | omega), rfl, trivial⟩
  exact Ok.some trivial
theorem o_X9_wrong_i {gRn : Nat} {gRk : Nat} {gRG : Nat → Nat → Int32} {i1 : Int32} (k_0 : gRn ≤ 9) (k_1 : gRk ≤ 9) (k_2 : 1 ≤ gRn) : Ok (fX9_wrong_i gRn gRk gRG i1) (fun r => -2 ≤ r.toInt ∧ (i1 = 0 → r.toInt < (gRk : Int)) ∧ (¬ i1 = 0 → r.toInt < (gRn : Int))) := by
  have l0 : Int32.toInt (0) = 0 := by decide
  have lm1 : Int32.toInt (-1) = -1 := by decide
  have lm2 : Int32.toInt (-2) = -2 := by decide
  unfold fX9_wrong_i
  refine Ok.bind (Ok.ct (P := fun b_1 => -2 ≤ b_1.1.toInt ∧ (i1 = 0 → b_1.1.toInt < (gRk : Int)) ∧ (¬ i1 = 0 → b_1.1.toInt < (gRn : Int))) (fun s_1 => -2 ≤ s_1.1.toInt ∧ (i1 = 0 → s_1.1.toInt < (gRk : Int)) ∧ (¬ i1 = 0 → s_1.1.toInt < (gRn : Int))) (fun s_1 => s_1.2) 9 ⟨(by show -2 ≤ Int32.toInt (-1); omega), (fun _ => by show Int32.toInt (-1) < (gRk : Int); omega), (fun _ => by show Int32.toInt (-1) < (gRn : Int); omega)⟩ (show (0 : Int) ≤ Int32.toInt 0 by decide) (by decide) (fun s_1 i_s_1 z_s_1 => ?_)) (fun b_1 h_b_1 => ?_)
  · have j := i_s_1
    refine Ok.bind (P := fun r => (i1 = 0 → r.toInt = (gRk : Int)) ∧ (¬ i1 = 0 → r.toInt = (gRn : Int))) ?_ (fun r_4 h_r_4 => ?_)
    · refine Ok.ite (fun c2 => ?_) (fun c2 => ?_)
      · refine Ok.grd (yi_in (show (0 : Int) ≤ Int32.toInt 0 by decide) (by omega)) ?_
        exact Ok.some ⟨fun _ => yi_nI (by omega), fun z => absurd c2 z⟩
      · exact Ok.some ⟨fun z => absurd z c2, fun _ => yi_nI (by omega)⟩
    have f_r_4 : r_4.toInt ≤ 9 := by
      by_cases z : i1 = 0
      · rw [h_r_4.1 z]; omega
      · rw [h_r_4.2 z]; omega
    refine Ok.ite (fun c3 => ?_) (fun c3 => ?_)
    · have d3 : r_4.toInt ≤ s_1.2.toInt := by rw [yi_le] at c3; exact c3
      exact Ok.some j
    · have d3 : ¬ r_4.toInt ≤ s_1.2.toInt := by rw [yi_le] at c3; exact c3
      refine Ok.bind (o_X9_off_i (by first | assumption | first | omega | exact (fun z => by have := h_r_4.1 z; omega) | exact (fun z => by have := h_r_4.2 z; omega)) (by first | assumption | first | omega | exact (fun z => by have := h_r_4.1 z; omega) | exact (fun z => by have := h_r_4.2 z; omega)) (by first | assumption | first | omega | exact (fun z => by have := h_r_4.1 z; omega) | exact (fun z => by have := h_r_4.2 z; omega)) (by first | assumption | first | omega | exact (fun z => by have := h_r_4.1 z; omega) | exact (fun z => by have := h_r_4.2 z; omega)) (by first | assumption | first | omega | exact (fun z => by have := h_r_4.1 z; omega) | exact (fun z => by have := h_r_4.2 z; omega)) (by first | assumption | first | omega | exact (fun z => by have := h_r_4.1 z; omega) | exact (fun z => by have := h_r_4.2 z; omega))) (fun x_7 h_x_7 => ?_)
      refine Ok.ite (fun c4 => ?_) (fun c4 => ?_)
      · exact Ok.some ⟨yi_nle c3 f_r_4, rfl, j⟩
      · refine Ok.ite (fun c5 => ?_) (fun c5 => ?_)
        · exact Ok.some ⟨yi_nle c3 f_r_4, rfl, ⟨(by show -2 ≤ s_1.2.toInt; omega), fun z => by have := h_r_4.1 z; show s_1.2.toInt < (gRk : Int); omega, fun z => by have := h_r_4.2 z; show s_1.2.toInt < (gRn : Int); omega⟩⟩
        · exact Ok.some ⟨yi_nle c3 f_r_4, rfl, ⟨by show -2 ≤ Int32.toInt (-2); omega, fun _ => by show Int32.toInt (-2) < (gRk : Int); omega, fun _ => by show Int32.toInt (-2) < (gRn : Int); omega⟩⟩
  exact Ok.some h_b_1
theorem o_X9_severalOr_i {gRn : Nat} {gRk : Nat} {gRG : Nat → Nat → Int32} {i1 : Int32} (k_0 : gRn ≤ 9) (k_1 : gRk ≤ 9) (k_2 : 1 ≤ gRn) : Ok (fX9_severalOr_i gRn gRk gRG i1) (fun r => -2 ≤ r.toInt ∧ (i1 = 0 → r.toInt < (gRk : Int)) ∧ (¬ i1 = 0 → r.toInt < (gRn : Int))) := by
  have l0 : Int32.toInt (0) = 0 := by decide
  have lm2 : Int32.toInt (-2) = -2 := by decide
  unfold fX9_severalOr_i
  refine Ok.bind (Ok.ct (P := fun _ => True) (fun _ => True) (fun s_1 => s_1.2) 9 trivial (show (0 : Int) ≤ Int32.toInt 0 by decide) (by decide) (fun s_1 i_s_1 z_s_1 => ?_)) (fun b_1 h_b_1 => ?_)
  · refine Ok.bind (P := fun r => (i1 = 0 → r.toInt = (gRk : Int)) ∧ (¬ i1 = 0 → r.toInt = (gRn : Int))) ?_ (fun r_9 h_r_9 => ?_)
    · refine Ok.ite (fun c2 => ?_) (fun c2 => ?_)
      · refine Ok.grd (yi_in (show (0 : Int) ≤ Int32.toInt 0 by decide) (by omega)) ?_
        exact Ok.some ⟨fun _ => yi_nI (by omega), fun z => absurd c2 z⟩
      · exact Ok.some ⟨fun z => absurd z c2, fun _ => yi_nI (by omega)⟩
    have f_r_9 : r_9.toInt ≤ 9 := by
      by_cases z : i1 = 0
      · rw [h_r_9.1 z]; omega
      · rw [h_r_9.2 z]; omega
    refine Ok.ite (fun c3 => ?_) (fun c3 => ?_)
    · have d3 : r_9.toInt ≤ s_1.2.toInt := by rw [yi_le] at c3; exact c3
      exact Ok.some trivial
    · have d3 : ¬ r_9.toInt ≤ s_1.2.toInt := by rw [yi_le] at c3; exact c3
      refine Ok.bind (o_X9_off_i (by first | assumption | first | omega | exact (fun z => by have := h_r_9.1 z; omega) | exact (fun z => by have := h_r_9.2 z; omega)) (by first | assumption | first | omega | exact (fun z => by have := h_r_9.1 z; omega) | exact (fun z => by have := h_r_9.2 z; omega)) (by first | assumption | first | omega | exact (fun z => by have := h_r_9.1 z; omega) | exact (fun z => by have := h_r_9.2 z; omega)) (by first | assumption | first | omega | exact (fun z => by have := h_r_9.1 z; omega) | exact (fun z => by have := h_r_9.2 z; omega)) (by first | assumption | first | omega | exact (fun z => by have := h_r_9.1 z; omega) | exact (fun z => by have := h_r_9.2 z; omega)) (by first | assumption | first | omega | exact (fun z => by have := h_r_9.1 z; omega) | exact (fun z => by have := h_r_9.2 z; omega))) (fun x_12 h_x_12 => ?_)
      refine Ok.bind (P := fun _ => True) ?_ (fun r_17 h_r_17 => ?_)
      · refine Ok.ite (fun c4 => ?_) (fun c4 => ?_)
        · exact Ok.some trivial
        · exact Ok.some trivial
      refine Ok.bind (o_X9_one) (fun x_18 h_x_18 => ?_)
      exact Ok.some ⟨yi_nle c3 f_r_9, rfl, trivial⟩
  refine Ok.ite (fun c5 => ?_) (fun c5 => ?_)
  · have d5 : b_1.1.toInt ≤ 1 := by rw [yi_le] at c5; exact c5
    refine Ok.bind (o_X9_wrong_i (by first | assumption | first | omega | exact (fun z => by have := h_r_9.1 z; omega) | exact (fun z => by have := h_r_9.2 z; omega)) (by first | assumption | first | omega | exact (fun z => by have := h_r_9.1 z; omega) | exact (fun z => by have := h_r_9.2 z; omega)) (by first | assumption | first | omega | exact (fun z => by have := h_r_9.1 z; omega) | exact (fun z => by have := h_r_9.2 z; omega))) (fun x_3 h_x_3 => ?_)
    exact Ok.some h_x_3
  · have d5 : ¬ b_1.1.toInt ≤ 1 := by rw [yi_le] at c5; exact c5
    exact Ok.some ⟨by show -2 ≤ Int32.toInt (-2); omega, fun _ => by show Int32.toInt (-2) < (gRk : Int); omega, fun _ => by show Int32.toInt (-2) < (gRn : Int); omega⟩
theorem o_X9_off_r {gRn : Nat} {gRk : Nat} {gRG : Nat → Nat → Int32} {i1 : Int32} {i2 : Int32} (k_0 : gRn ≤ 9) (k_1 : gRk ≤ 9) (k_2 : 1 ≤ gRn) (k_3 : 0 ≤ i2.toInt) (k_4 : (i1 = 0 → i2.toInt < gRk)) (k_5 : (¬ i1 = 0 → i2.toInt < gRn)) : Ok (fX9_off_r gRn gRk gRG i1 i2) (fun _ => True) := by
  unfold fX9_off_r
  refine Ok.bind (P := fun r => (i1 = 0 → r.toInt = (gRn : Int)) ∧ (¬ i1 = 0 → r.toInt = (gRk : Int))) ?_ (fun r_3 h_r_3 => ?_)
  · refine Ok.ite (fun c1 => ?_) (fun c1 => ?_)
    · exact Ok.some ⟨fun _ => yi_nI (by omega), fun z => absurd c1 z⟩
    · refine Ok.grd (yi_in (show (0 : Int) ≤ Int32.toInt 0 by decide) (by have : Int32.toInt 0 = 0 := (by decide); omega)) ?_
      exact Ok.some ⟨fun z => absurd z c1, fun _ => yi_nI (by omega)⟩
  have f_r_3 : r_3.toInt ≤ 9 := by
    by_cases z : i1 = 0
    · rw [h_r_3.1 z]; omega
    · rw [h_r_3.2 z]; omega
  refine Ok.bind (Ok.ct (P := fun _ => True) (fun _ => True) (fun s_4 => s_4.2) 200 trivial (show (0 : Int) ≤ Int32.toInt 0 by decide) (by decide) (fun s_4 i_s_4 z_s_4 => ?_)) (fun b_4 h_b_4 => ?_)
  · refine Ok.ite (fun c3 => ?_) (fun c3 => ?_)
    · have d3 : r_3.toInt ≤ s_4.2.toInt := by rw [yi_le] at c3; exact c3
      exact Ok.some trivial
    · have d3 : ¬ r_3.toInt ≤ s_4.2.toInt := by rw [yi_le] at c3; exact c3
      refine Ok.bind (P := fun _ => True) ?_ (fun r_12 h_r_12 => ?_)
      · refine Ok.ite (fun c4 => ?_) (fun c4 => ?_)
        · refine Ok.grd (yi_in (by omega) (by have := h_r_3.1 c4; omega)) ?_
          refine Ok.grd (yi_in k_3 (k_4 c4)) ?_
          exact Ok.some trivial
        · refine Ok.grd (yi_in k_3 (k_5 c4)) ?_
          refine Ok.grd (yi_in (by omega) (by have := h_r_3.2 c4; omega)) ?_
          exact Ok.some trivial
      refine Ok.bind (P := fun _ => True) ?_ (fun r_14 h_r_14 => ?_)
      · refine Ok.ite (fun c5 => ?_) (fun c5 => ?_)
        · exact Ok.some trivial
        · exact Ok.some trivial
      exact Ok.some ⟨yi_nle c3 (by first | exact h_r_3 | omega), rfl, trivial⟩
  exact Ok.some trivial
theorem o_X9_wrong_r {gRn : Nat} {gRk : Nat} {gRG : Nat → Nat → Int32} {i1 : Int32} (k_0 : gRn ≤ 9) (k_1 : gRk ≤ 9) (k_2 : 1 ≤ gRn) : Ok (fX9_wrong_r gRn gRk gRG i1) (fun r => -2 ≤ r.toInt ∧ (i1 = 0 → r.toInt < (gRk : Int)) ∧ (¬ i1 = 0 → r.toInt < (gRn : Int))) := by
  have l0 : Int32.toInt (0) = 0 := by decide
  have lm1 : Int32.toInt (-1) = -1 := by decide
  have lm2 : Int32.toInt (-2) = -2 := by decide
  unfold fX9_wrong_r
  refine Ok.bind (Ok.ct (P := fun b_1 => -2 ≤ b_1.1.toInt ∧ (i1 = 0 → b_1.1.toInt < (gRk : Int)) ∧ (¬ i1 = 0 → b_1.1.toInt < (gRn : Int))) (fun s_1 => -2 ≤ s_1.1.toInt ∧ (i1 = 0 → s_1.1.toInt < (gRk : Int)) ∧ (¬ i1 = 0 → s_1.1.toInt < (gRn : Int))) (fun s_1 => s_1.2) 9 ⟨(by show -2 ≤ Int32.toInt (-1); omega), (fun _ => by show Int32.toInt (-1) < (gRk : Int); omega), (fun _ => by show Int32.toInt (-1) < (gRn : Int); omega)⟩ (show (0 : Int) ≤ Int32.toInt 0 by decide) (by decide) (fun s_1 i_s_1 z_s_1 => ?_)) (fun b_1 h_b_1 => ?_)
  · have j := i_s_1
    refine Ok.bind (P := fun r => (i1 = 0 → r.toInt = (gRk : Int)) ∧ (¬ i1 = 0 → r.toInt = (gRn : Int))) ?_ (fun r_4 h_r_4 => ?_)
    · refine Ok.ite (fun c2 => ?_) (fun c2 => ?_)
      · refine Ok.grd (yi_in (show (0 : Int) ≤ Int32.toInt 0 by decide) (by omega)) ?_
        exact Ok.some ⟨fun _ => yi_nI (by omega), fun z => absurd c2 z⟩
      · exact Ok.some ⟨fun z => absurd z c2, fun _ => yi_nI (by omega)⟩
    have f_r_4 : r_4.toInt ≤ 9 := by
      by_cases z : i1 = 0
      · rw [h_r_4.1 z]; omega
      · rw [h_r_4.2 z]; omega
    refine Ok.ite (fun c3 => ?_) (fun c3 => ?_)
    · have d3 : r_4.toInt ≤ s_1.2.toInt := by rw [yi_le] at c3; exact c3
      exact Ok.some j
    · have d3 : ¬ r_4.toInt ≤ s_1.2.toInt := by rw [yi_le] at c3; exact c3
      refine Ok.bind (o_X9_off_r (by first | assumption | first | omega | exact (fun z => by have := h_r_4.1 z; omega) | exact (fun z => by have := h_r_4.2 z; omega)) (by first | assumption | first | omega | exact (fun z => by have := h_r_4.1 z; omega) | exact (fun z => by have := h_r_4.2 z; omega)) (by first | assumption | first | omega | exact (fun z => by have := h_r_4.1 z; omega) | exact (fun z => by have := h_r_4.2 z; omega)) (by first | assumption | first | omega | exact (fun z => by have := h_r_4.1 z; omega) | exact (fun z => by have := h_r_4.2 z; omega)) (by first | assumption | first | omega | exact (fun z => by have := h_r_4.1 z; omega) | exact (fun z => by have := h_r_4.2 z; omega)) (by first | assumption | first | omega | exact (fun z => by have := h_r_4.1 z; omega) | exact (fun z => by have := h_r_4.2 z; omega))) (fun x_7 h_x_7 => ?_)
      refine Ok.ite (fun c4 => ?_) (fun c4 => ?_)
      · exact Ok.some ⟨yi_nle c3 f_r_4, rfl, j⟩
      · refine Ok.ite (fun c5 => ?_) (fun c5 => ?_)
        · exact Ok.some ⟨yi_nle c3 f_r_4, rfl, ⟨(by show -2 ≤ s_1.2.toInt; omega), fun z => by have := h_r_4.1 z; show s_1.2.toInt < (gRk : Int); omega, fun z => by have := h_r_4.2 z; show s_1.2.toInt < (gRn : Int); omega⟩⟩
        · exact Ok.some ⟨yi_nle c3 f_r_4, rfl, ⟨by show -2 ≤ Int32.toInt (-2); omega, fun _ => by show Int32.toInt (-2) < (gRk : Int); omega, fun _ => by show Int32.toInt (-2) < (gRn : Int); omega⟩⟩
  exact Ok.some h_b_1
theorem o_X9_severalOr_r {gRn : Nat} {gRk : Nat} {gRG : Nat → Nat → Int32} {i1 : Int32} (k_0 : gRn ≤ 9) (k_1 : gRk ≤ 9) (k_2 : 1 ≤ gRn) : Ok (fX9_severalOr_r gRn gRk gRG i1) (fun r => -2 ≤ r.toInt ∧ (i1 = 0 → r.toInt < (gRk : Int)) ∧ (¬ i1 = 0 → r.toInt < (gRn : Int))) := by
  have l0 : Int32.toInt (0) = 0 := by decide
  have lm2 : Int32.toInt (-2) = -2 := by decide
  unfold fX9_severalOr_r
  refine Ok.bind (Ok.ct (P := fun _ => True) (fun _ => True) (fun s_1 => s_1.2) 9 trivial (show (0 : Int) ≤ Int32.toInt 0 by decide) (by decide) (fun s_1 i_s_1 z_s_1 => ?_)) (fun b_1 h_b_1 => ?_)
  · refine Ok.bind (P := fun r => (i1 = 0 → r.toInt = (gRk : Int)) ∧ (¬ i1 = 0 → r.toInt = (gRn : Int))) ?_ (fun r_9 h_r_9 => ?_)
    · refine Ok.ite (fun c2 => ?_) (fun c2 => ?_)
      · refine Ok.grd (yi_in (show (0 : Int) ≤ Int32.toInt 0 by decide) (by omega)) ?_
        exact Ok.some ⟨fun _ => yi_nI (by omega), fun z => absurd c2 z⟩
      · exact Ok.some ⟨fun z => absurd z c2, fun _ => yi_nI (by omega)⟩
    have f_r_9 : r_9.toInt ≤ 9 := by
      by_cases z : i1 = 0
      · rw [h_r_9.1 z]; omega
      · rw [h_r_9.2 z]; omega
    refine Ok.ite (fun c3 => ?_) (fun c3 => ?_)
    · have d3 : r_9.toInt ≤ s_1.2.toInt := by rw [yi_le] at c3; exact c3
      exact Ok.some trivial
    · have d3 : ¬ r_9.toInt ≤ s_1.2.toInt := by rw [yi_le] at c3; exact c3
      refine Ok.bind (o_X9_off_r (by first | assumption | first | omega | exact (fun z => by have := h_r_9.1 z; omega) | exact (fun z => by have := h_r_9.2 z; omega)) (by first | assumption | first | omega | exact (fun z => by have := h_r_9.1 z; omega) | exact (fun z => by have := h_r_9.2 z; omega)) (by first | assumption | first | omega | exact (fun z => by have := h_r_9.1 z; omega) | exact (fun z => by have := h_r_9.2 z; omega)) (by first | assumption | first | omega | exact (fun z => by have := h_r_9.1 z; omega) | exact (fun z => by have := h_r_9.2 z; omega)) (by first | assumption | first | omega | exact (fun z => by have := h_r_9.1 z; omega) | exact (fun z => by have := h_r_9.2 z; omega)) (by first | assumption | first | omega | exact (fun z => by have := h_r_9.1 z; omega) | exact (fun z => by have := h_r_9.2 z; omega))) (fun x_12 h_x_12 => ?_)
      refine Ok.bind (P := fun _ => True) ?_ (fun r_17 h_r_17 => ?_)
      · refine Ok.ite (fun c4 => ?_) (fun c4 => ?_)
        · exact Ok.some trivial
        · exact Ok.some trivial
      refine Ok.bind (o_X9_one) (fun x_18 h_x_18 => ?_)
      exact Ok.some ⟨yi_nle c3 f_r_9, rfl, trivial⟩
  refine Ok.ite (fun c5 => ?_) (fun c5 => ?_)
  · have d5 : b_1.1.toInt ≤ 1 := by rw [yi_le] at c5; exact c5
    refine Ok.bind (o_X9_wrong_r (by first | assumption | first | omega | exact (fun z => by have := h_r_9.1 z; omega) | exact (fun z => by have := h_r_9.2 z; omega)) (by first | assumption | first | omega | exact (fun z => by have := h_r_9.1 z; omega) | exact (fun z => by have := h_r_9.2 z; omega)) (by first | assumption | first | omega | exact (fun z => by have := h_r_9.1 z; omega) | exact (fun z => by have := h_r_9.2 z; omega))) (fun x_3 h_x_3 => ?_)
    exact Ok.some h_x_3
  · have d5 : ¬ b_1.1.toInt ≤ 1 := by rw [yi_le] at c5; exact c5
    exact Ok.some ⟨by show -2 ≤ Int32.toInt (-2); omega, fun _ => by show Int32.toInt (-2) < (gRk : Int); omega, fun _ => by show Int32.toInt (-2) < (gRn : Int); omega⟩
