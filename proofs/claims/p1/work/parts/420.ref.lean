theorem o_J6_numberOfTrailingZeros_0f7a4 {i1 : Int32}  : Ok (fJ6_numberOfTrailingZeros_0f7a4 i1) (fun _ => True) := by
  unfold fJ6_numberOfTrailingZeros_0f7a4
  refine Ok.ite (fun c1 => ?_) (fun c1 => ?_)
  · refine Ok.bind (P := fun _ => True) ?_ (fun r_4 h_r_4 => ?_)
    · refine Ok.ite (fun c2 => ?_) (fun c2 => ?_)
      · exact Ok.some trivial
      · refine Ok.lt ?_
        exact Ok.some trivial
    refine Ok.bind (P := fun _ => True) ?_ (fun r_7 h_r_7 => ?_)
    · refine Ok.ite (fun c3 => ?_) (fun c3 => ?_)
      · have d3 : r_4.1.toInt ≤ 256 := by rw [yi_le] at c3; exact c3
        exact Ok.some trivial
      · have d3 : ¬ r_4.1.toInt ≤ 256 := by rw [yi_le] at c3; exact c3
        refine Ok.lt ?_
        exact Ok.some trivial
    refine Ok.bind (P := fun _ => True) ?_ (fun r_10 h_r_10 => ?_)
    · refine Ok.ite (fun c4 => ?_) (fun c4 => ?_)
      · have d4 : r_7.1.toInt ≤ 16 := by rw [yi_le] at c4; exact c4
        exact Ok.some trivial
      · have d4 : ¬ r_7.1.toInt ≤ 16 := by rw [yi_le] at c4; exact c4
        refine Ok.lt ?_
        exact Ok.some trivial
    refine Ok.bind (P := fun _ => True) ?_ (fun r_13 h_r_13 => ?_)
    · refine Ok.ite (fun c5 => ?_) (fun c5 => ?_)
      · have d5 : r_10.1.toInt ≤ 4 := by rw [yi_le] at c5; exact c5
        exact Ok.some trivial
      · have d5 : ¬ r_10.1.toInt ≤ 4 := by rw [yi_le] at c5; exact c5
        refine Ok.lt ?_
        exact Ok.some trivial
    exact Ok.some trivial
  · exact Ok.some trivial
theorem o_X9_isIn {i1 : Int32} {i2 : Int32} {i3 : Int32}  : Ok (fX9_isIn i1 i2 i3) (fun r => (r = 0 ∧ ¬ (i2.toInt ≤ i1.toInt ∧ i1.toInt ≤ i3.toInt)) ∨ (r = 1 ∧ i2.toInt ≤ i1.toInt ∧ i1.toInt ≤ i3.toInt)) := by
  unfold fX9_isIn
  refine Ok.ite (fun c1 => ?_) (fun c1 => ?_)
  · have d1 : i1.toInt < i2.toInt := by rw [yi_lt] at c1; exact c1
    exact Ok.some (Or.inl ⟨rfl, by omega⟩)
  · have d1 : ¬ i1.toInt < i2.toInt := by rw [yi_lt] at c1; exact c1
    refine Ok.ite (fun c2 => ?_) (fun c2 => ?_)
    · have d2 : i3.toInt < i1.toInt := by rw [yi_lt] at c2; exact c2
      exact Ok.some (Or.inl ⟨rfl, by omega⟩)
    · have d2 : ¬ i3.toInt < i1.toInt := by rw [yi_lt] at c2; exact c2
      exact Ok.some (Or.inr ⟨rfl, by omega, by omega⟩)
theorem o_X9_one {i1 : Int32}  : Ok (fX9_one i1) (fun r => (r = 0 ∧ i1 = 0) ∨ (r = 1 ∧ ¬ i1 = 0)) := by
  unfold fX9_one
  refine Ok.ite (fun c1 => ?_) (fun c1 => ?_)
  · exact Ok.some (Or.inl ⟨rfl, c1⟩)
  · exact Ok.some (Or.inr ⟨rfl, c1⟩)
theorem o_X9_has {i1 : Int32} {i2 : Int32}  : Ok (fX9_has i1 i2) (fun r => Bo r) := by
  unfold fX9_has
  refine Ok.ite (fun c1 => ?_) (fun c1 => ?_)
  · exact Ok.some (by decide)
  · exact Ok.some (by decide)
theorem o_X9_nth {i1 : Int32} {i2 : Int32} (k_0 : i2.toInt ≤ 100) : Ok (fX9_nth i1 i2) (fun _ => True) := by
  unfold fX9_nth
  refine Ok.bind (Ok.ct (P := fun _ => True) (fun _ => True) (fun s_1 => s_1.2) i2.toInt trivial (show (0 : Int) ≤ Int32.toInt 0 by decide) (by omega) (fun s_1 i_s_1 z_s_1 => ?_)) (fun b_1 h_b_1 => ?_)
  · refine Ok.ite (fun c2 => ?_) (fun c2 => ?_)
    · have d2 : i2.toInt ≤ s_1.2.toInt := by rw [yi_le] at c2; exact c2
      exact Ok.some trivial
    · have d2 : ¬ i2.toInt ≤ s_1.2.toInt := by rw [yi_le] at c2; exact c2
      exact Ok.some ⟨yi_nle c2 (Int.le_refl _), rfl, trivial⟩
  refine Ok.bind (o_J6_numberOfTrailingZeros_0f7a4) (fun x_2 h_x_2 => ?_)
  exact Ok.some trivial
theorem o_X8_rows {wr : Int32} {ws : Int32} (s9_wr : S9 wr) : Ok (fX8_rows wr ws) (fun r => 0 ≤ r.toInt ∧ r.toInt ≤ wr.toInt + 1 ∧ wr.toInt ≤ r.toInt) := by
  unfold fX8_rows
  refine Ok.bind (o_X9_one) (fun x_1 h_x_1 => ?_)
  exact Ok.some (yi_b01 s9_wr h_x_1)
theorem o_X8_columns {wc : Int32} {ws : Int32} (s9_wc : S9 wc) : Ok (fX8_columns wc ws) (fun r => 0 ≤ r.toInt ∧ r.toInt ≤ wc.toInt + 1 ∧ wc.toInt ≤ r.toInt) := by
  unfold fX8_columns
  refine Ok.bind (o_X9_one) (fun x_1 h_x_1 => ?_)
  exact Ok.some (yi_b01 s9_wc h_x_1)
theorem o_X8_a {wr : Int32} {wan : Nat} {wak : Nat} {waG : Nat → Nat → Int32} {i1 : Int32} {i2 : Int32} (k_0 : wan ≤ 9) (k_1 : wak ≤ 9) (k_2 : 0 ≤ i1.toInt) (k_3 : (i1.toInt < wan ∨ wr.toInt ≤ i1.toInt)) (k_4 : 0 ≤ i2.toInt) (k_5 : i2.toInt < wak) : Ok (fX8_a wr wan wak waG i1 i2) (fun _ => True) := by
  unfold fX8_a
  refine Ok.ite (fun c1 => ?_) (fun c1 => ?_)
  · have d1 : wr.toInt ≤ i1.toInt := by rw [yi_le] at c1; exact c1
    refine Ok.bind (Ok.ct (P := fun _ => True) (fun _ => True) (fun s_2 => s_2.2) (wan : Int) trivial (show (0 : Int) ≤ Int32.toInt 0 by decide) (by omega) (fun s_2 i_s_2 z_s_2 => ?_)) (fun b_2 h_b_2 => ?_)
    · refine Ok.ite (fun c3 => ?_) (fun c3 => ?_)
      · have d3 : (wan : Int) ≤ s_2.2.toInt := by rw [yi_le, yi_nI (by omega)] at c3; exact c3
        exact Ok.some trivial
      · have d3 : ¬ (wan : Int) ≤ s_2.2.toInt := by rw [yi_le, yi_nI (by omega)] at c3; exact c3
        refine Ok.grd (yi_in (by omega) (by omega)) ?_
        refine Ok.grd (yi_in (by omega) (by omega)) ?_
        refine Ok.lt ?_
        exact Ok.some ⟨yi_nle c3 (by rw [yi_nI (by omega)]; exact Int.le_refl _), rfl, trivial⟩
    exact Ok.some trivial
  · have d1 : ¬ wr.toInt ≤ i1.toInt := by rw [yi_le] at c1; exact c1
    refine Ok.grd (yi_in (by omega) (by omega)) ?_
    refine Ok.grd (yi_in (by omega) (by omega)) ?_
    exact Ok.some trivial
theorem o_X8_b {wc : Int32} {wbn : Nat} {wbk : Nat} {wbG : Nat → Nat → Int32} {i1 : Int32} {i2 : Int32} (k_0 : wbn ≤ 9) (k_1 : wbk ≤ 9) (k_2 : 0 ≤ i2.toInt) (k_3 : (i2.toInt < wbk ∨ wc.toInt ≤ i2.toInt)) (k_4 : 0 ≤ i1.toInt) (k_5 : i1.toInt < wbn) : Ok (fX8_b wc wbn wbk wbG i1 i2) (fun _ => True) := by
  unfold fX8_b
  refine Ok.ite (fun c1 => ?_) (fun c1 => ?_)
  · have d1 : wc.toInt ≤ i2.toInt := by rw [yi_le] at c1; exact c1
    refine Ok.grd (yi_in (by omega) (by omega)) ?_
    refine Ok.bind (Ok.ct (P := fun _ => True) (fun _ => True) (fun s_3 => s_3.2) (wbk : Int) trivial (show (0 : Int) ≤ Int32.toInt 0 by decide) (by omega) (fun s_3 i_s_3 z_s_3 => ?_)) (fun b_3 h_b_3 => ?_)
    · refine Ok.ite (fun c3 => ?_) (fun c3 => ?_)
      · have d3 : (wbk : Int) ≤ s_3.2.toInt := by rw [yi_le, yi_nI (by omega)] at c3; exact c3
        exact Ok.some trivial
      · have d3 : ¬ (wbk : Int) ≤ s_3.2.toInt := by rw [yi_le, yi_nI (by omega)] at c3; exact c3
        refine Ok.grd (yi_in (by omega) (by omega)) ?_
        refine Ok.lt ?_
        exact Ok.some ⟨yi_nle c3 (by rw [yi_nI (by omega)]; exact Int.le_refl _), rfl, trivial⟩
    exact Ok.some trivial
  · have d1 : ¬ wc.toInt ≤ i2.toInt := by rw [yi_le] at c1; exact c1
    refine Ok.grd (yi_in (by omega) (by omega)) ?_
    refine Ok.grd (yi_in (by omega) (by omega)) ?_
    exact Ok.some trivial
theorem o_X8_isIdle {wg : Int32} {wan : Nat} {wak : Nat} {waG : Nat → Nat → Int32} {wbn : Nat} {wbk : Nat} {wbG : Nat → Nat → Int32} {i1 : Int32} (k_0 : wan ≤ 9) (k_1 : wbk ≤ 9) (k_2 : 0 ≤ i1.toInt) (k_3 : i1.toInt < wak) (k_4 : i1.toInt < wbn) : Ok (fX8_isIdle wg wan wak waG wbn wbk wbG i1) (fun r => Bo r) := by
  unfold fX8_isIdle
  refine Ok.bind (Ok.ct (P := fun _ => True) (fun _ => True) (fun s_1 => s_1.2) (wan : Int) trivial (show (0 : Int) ≤ Int32.toInt 0 by decide) (by omega) (fun s_1 i_s_1 z_s_1 => ?_)) (fun b_1 h_b_1 => ?_)
  · refine Ok.ite (fun c2 => ?_) (fun c2 => ?_)
    · have d2 : (wan : Int) ≤ s_1.2.toInt := by rw [yi_le, yi_nI (by omega)] at c2; exact c2
      exact Ok.some trivial
    · have d2 : ¬ (wan : Int) ≤ s_1.2.toInt := by rw [yi_le, yi_nI (by omega)] at c2; exact c2
      refine Ok.grd (yi_in (by omega) (by omega)) ?_
      refine Ok.grd (yi_in (by omega) (by omega)) ?_
      refine Ok.bind (P := fun _ => True) ?_ (fun r_20 h_r_20 => ?_)
      · refine Ok.ite (fun c3 => ?_) (fun c3 => ?_)
        · exact Ok.some trivial
        · exact Ok.some trivial
      exact Ok.some ⟨yi_nle c2 (by rw [yi_nI (by omega)]; exact Int.le_refl _), rfl, trivial⟩
  refine Ok.grd (yi_in (by omega) (by omega)) ?_
  refine Ok.bind (Ok.ct (P := fun _ => True) (fun _ => True) (fun s_3 => s_3.2) (wbk : Int) trivial (show (0 : Int) ≤ Int32.toInt 0 by decide) (by omega) (fun s_3 i_s_3 z_s_3 => ?_)) (fun b_3 h_b_3 => ?_)
  · refine Ok.ite (fun c5 => ?_) (fun c5 => ?_)
    · have d5 : (wbk : Int) ≤ s_3.2.toInt := by rw [yi_le, yi_nI (by omega)] at c5; exact c5
      exact Ok.some trivial
    · have d5 : ¬ (wbk : Int) ≤ s_3.2.toInt := by rw [yi_le, yi_nI (by omega)] at c5; exact c5
      refine Ok.grd (yi_in (by omega) (by omega)) ?_
      refine Ok.bind (P := fun _ => True) ?_ (fun r_11 h_r_11 => ?_)
      · refine Ok.ite (fun c6 => ?_) (fun c6 => ?_)
        · exact Ok.some trivial
        · exact Ok.some trivial
      exact Ok.some ⟨yi_nle c5 (by rw [yi_nI (by omega)]; exact Int.le_refl _), rfl, trivial⟩
  refine Ok.ite (fun c7 => ?_) (fun c7 => ?_)
  · refine Ok.ite (fun c8 => ?_) (fun c8 => ?_)
    · refine Ok.ite (fun c9 => ?_) (fun c9 => ?_)
      · exact Ok.some (by decide)
      · exact Ok.some (by decide)
    · exact Ok.some (by decide)
  · exact Ok.some (by decide)
theorem o_X8_skipped {wk : Int32} {wg : Int32} {wan : Nat} {wak : Nat} {waG : Nat → Nat → Int32} {wbn : Nat} {wbk : Nat} {wbG : Nat → Nat → Int32} (s9_wk : S9 wk) (k_1 : wan ≤ 9) (k_2 : wbk ≤ 9) (k_3 : wk.toInt ≤ wak) (k_4 : wk.toInt ≤ wbn) : Ok (fX8_skipped wk wg wan wak waG wbn wbk wbG) (fun _ => True) := by
  unfold fX8_skipped
  refine Ok.bind (Ok.ct (P := fun _ => True) (fun _ => True) (fun s_1 => s_1.2) wk.toInt trivial (show (0 : Int) ≤ Int32.toInt 0 by decide) (by have := (by omega); omega) (fun s_1 i_s_1 z_s_1 => ?_)) (fun b_1 h_b_1 => ?_)
  · refine Ok.ite (fun c2 => ?_) (fun c2 => ?_)
    · have d2 : wk.toInt ≤ s_1.2.toInt := by rw [yi_le] at c2; exact c2
      exact Ok.some trivial
    · have d2 : ¬ wk.toInt ≤ s_1.2.toInt := by rw [yi_le] at c2; exact c2
      refine Ok.bind (o_X8_isIdle (by first | assumption | omega) (by first | assumption | omega) (by first | assumption | omega) (by first | assumption | omega) (by first | assumption | omega)) (fun x_5 h_x_5 => ?_)
      refine Ok.bind (o_X9_one) (fun x_9 h_x_9 => ?_)
      exact Ok.some ⟨yi_nle c2 (Int.le_refl _), rfl, trivial⟩
  refine Ok.ite (fun c3 => ?_) (fun c3 => ?_)
  · exact Ok.some trivial
  · exact Ok.some trivial
theorem o_X8_steps {wk : Int32} {wg : Int32} {wan : Nat} {wak : Nat} {waG : Nat → Nat → Int32} {wbn : Nat} {wbk : Nat} {wbG : Nat → Nat → Int32} (s9_wk : S9 wk) (k_1 : wan ≤ 9) (k_2 : wbk ≤ 9) (k_3 : wk.toInt ≤ wak) (k_4 : wk.toInt ≤ wbn) : Ok (fX8_steps wk wg wan wak waG wbn wbk wbG) (fun _ => True) := by
  unfold fX8_steps
  refine Ok.bind (o_X8_skipped s9_wk (by first | assumption | omega) (by first | assumption | omega) (by first | assumption | omega) (by first | assumption | omega)) (fun x_1 h_x_1 => ?_)
  refine Ok.bind (o_J6_bitCount_0f7a4) (fun x_5 h_x_5 => ?_)
  exact Ok.some trivial
theorem o_X8_first {wg : Int32}  : Ok (fX8_first wg) (fun _ => True) := by
  unfold fX8_first
  refine Ok.ite (fun c1 => ?_) (fun c1 => ?_)
  · exact Ok.some trivial
  · refine Ok.ite (fun c2 => ?_) (fun c2 => ?_)
    · exact Ok.some trivial
    · exact Ok.some trivial
theorem o_X8_with {wg : Int32} {i1 : Int32} {i2 : Int32} {i3 : Int32}  : Ok (fX8_with wg i1 i2 i3) (fun _ => True) := by
  unfold fX8_with
  refine Ok.ite (fun c1 => ?_) (fun c1 => ?_)
  · exact Ok.some trivial
  · refine Ok.ite (fun c2 => ?_) (fun c2 => ?_)
    · exact Ok.some trivial
    · exact Ok.some trivial
theorem o_X8_plain {wr : Int32} {wk : Int32} {wc : Int32} {wg : Int32} {wan : Nat} {wak : Nat} {waG : Nat → Nat → Int32} {wbn : Nat} {wbk : Nat} {wbG : Nat → Nat → Int32} {i1 : Int32} {i2 : Int32} (s9_wk : S9 wk) (k_1 : wan ≤ 9) (k_2 : wak ≤ 9) (k_3 : wbn ≤ 9) (k_4 : wbk ≤ 9) (k_5 : wk.toInt ≤ wak) (k_6 : wk.toInt ≤ wbn) (k_7 : 0 ≤ i1.toInt) (k_8 : (i1.toInt < wan ∨ wr.toInt ≤ i1.toInt)) (k_9 : 0 ≤ i2.toInt) (k_10 : (i2.toInt < wbk ∨ wc.toInt ≤ i2.toInt)) : Ok (fX8_plain wr wk wc wg wan wak waG wbn wbk wbG i1 i2) (fun _ => True) := by
  unfold fX8_plain
  refine Ok.bind (o_X8_first) (fun x_1 h_x_1 => ?_)
  refine Ok.bind (Ok.ct (P := fun _ => True) (fun _ => True) (fun s_5 => s_5.2) wk.toInt trivial (show (0 : Int) ≤ Int32.toInt 0 by decide) (by have := (by omega); omega) (fun s_5 i_s_5 z_s_5 => ?_)) (fun b_5 h_b_5 => ?_)
  · refine Ok.ite (fun c2 => ?_) (fun c2 => ?_)
    · have d2 : wk.toInt ≤ s_5.2.toInt := by rw [yi_le] at c2; exact c2
      exact Ok.some trivial
    · have d2 : ¬ wk.toInt ≤ s_5.2.toInt := by rw [yi_le] at c2; exact c2
      refine Ok.bind (o_X8_a (by first | assumption | omega) (by first | assumption | omega) (by first | assumption | omega) (by first | assumption | omega) (by first | assumption | omega) (by first | assumption | omega)) (fun x_8 h_x_8 => ?_)
      refine Ok.bind (o_X8_b (by first | assumption | omega) (by first | assumption | omega) (by first | assumption | omega) (by first | assumption | omega) (by first | assumption | omega) (by first | assumption | omega)) (fun x_12 h_x_12 => ?_)
      refine Ok.bind (o_X8_with) (fun x_16 h_x_16 => ?_)
      exact Ok.some ⟨yi_nle c2 (Int.le_refl _), rfl, trivial⟩
  exact Ok.some trivial
theorem o_X9_others {hn : Nat} {hk : Nat} {hG : Nat → Nat → Int32} (k_0 : hn ≤ 9) (k_1 : hk ≤ 9) : Ok (fX9_others hn hk hG) (fun _ => True) := by
  unfold fX9_others
  refine Ok.bind (Ok.ct (P := fun _ => True) (fun _ => True) (fun s_1 => s_1.2) (hn : Int) trivial (show (0 : Int) ≤ Int32.toInt 0 by decide) (by omega) (fun s_1 i_s_1 z_s_1 => ?_)) (fun b_1 h_b_1 => ?_)
  · refine Ok.ite (fun c2 => ?_) (fun c2 => ?_)
    · have d2 : (hn : Int) ≤ s_1.2.toInt := by rw [yi_le, yi_nI (by omega)] at c2; exact c2
      exact Ok.some trivial
    · have d2 : ¬ (hn : Int) ≤ s_1.2.toInt := by rw [yi_le, yi_nI (by omega)] at c2; exact c2
      refine Ok.grd (yi_in (by omega) (by omega)) ?_
      refine Ok.bind (Ok.ct (P := fun _ => True) (fun _ => True) (fun s_5 => s_5.2) (hk : Int) trivial (show (0 : Int) ≤ Int32.toInt 0 by decide) (by omega) (fun s_5 i_s_5 z_s_5 => ?_)) (fun b_5 h_b_5 => ?_)
      · refine Ok.ite (fun c4 => ?_) (fun c4 => ?_)
        · have d4 : (hk : Int) ≤ s_5.2.toInt := by rw [yi_le, yi_nI (by omega)] at c4; exact c4
          exact Ok.some trivial
        · have d4 : ¬ (hk : Int) ≤ s_5.2.toInt := by rw [yi_le, yi_nI (by omega)] at c4; exact c4
          refine Ok.grd (yi_in (by omega) (by omega)) ?_
          refine Ok.lt ?_
          refine Ok.bind (P := fun _ => True) ?_ (fun r_11 h_r_11 => ?_)
          · refine Ok.ite (fun c5 => ?_) (fun c5 => ?_)
            · exact Ok.some trivial
            · exact Ok.some trivial
          refine Ok.bind (o_X9_one) (fun x_12 h_x_12 => ?_)
          exact Ok.some ⟨yi_nle c4 (by rw [yi_nI (by omega)]; exact Int.le_refl _), rfl, trivial⟩
      exact Ok.some ⟨yi_nle c2 (by rw [yi_nI (by omega)]; exact Int.le_refl _), rfl, trivial⟩
  exact Ok.some trivial
theorem o_X9_count_i {hn : Nat} {hk : Nat} {hG : Nat → Nat → Int32} (k_0 : hn ≤ 9) (k_1 : hk ≤ 9) : Ok (fX9_count_i hn hk hG) (fun _ => True) := by
  unfold fX9_count_i
  refine Ok.bind (Ok.ct (P := fun _ => True) (fun _ => True) (fun s_1 => s_1.2) (hn : Int) trivial (show (0 : Int) ≤ Int32.toInt 0 by decide) (by omega) (fun s_1 i_s_1 z_s_1 => ?_)) (fun b_1 h_b_1 => ?_)
  · refine Ok.ite (fun c2 => ?_) (fun c2 => ?_)
    · have d2 : (hn : Int) ≤ s_1.2.toInt := by rw [yi_le, yi_nI (by omega)] at c2; exact c2
      exact Ok.some trivial
    · have d2 : ¬ (hn : Int) ≤ s_1.2.toInt := by rw [yi_le, yi_nI (by omega)] at c2; exact c2
      refine Ok.grd (yi_in (by omega) (by omega)) ?_
      refine Ok.bind (Ok.ct (P := fun _ => True) (fun _ => True) (fun s_5 => s_5.2) (hk : Int) trivial (show (0 : Int) ≤ Int32.toInt 0 by decide) (by omega) (fun s_5 i_s_5 z_s_5 => ?_)) (fun b_5 h_b_5 => ?_)
      · refine Ok.ite (fun c4 => ?_) (fun c4 => ?_)
        · have d4 : (hk : Int) ≤ s_5.2.toInt := by rw [yi_le, yi_nI (by omega)] at c4; exact c4
          exact Ok.some trivial
        · have d4 : ¬ (hk : Int) ≤ s_5.2.toInt := by rw [yi_le, yi_nI (by omega)] at c4; exact c4
          refine Ok.grd (yi_in (by omega) (by omega)) ?_
          refine Ok.lt ?_
          refine Ok.bind (o_X9_one) (fun x_10 h_x_10 => ?_)
          exact Ok.some ⟨yi_nle c4 (by rw [yi_nI (by omega)]; exact Int.le_refl _), rfl, trivial⟩
      exact Ok.some ⟨yi_nle c2 (by rw [yi_nI (by omega)]; exact Int.le_refl _), rfl, trivial⟩
  exact Ok.some trivial
theorem o_X9_count_r {hn : Nat} {hk : Nat} {hG : Nat → Nat → Int32} (k_0 : hn ≤ 9) (k_1 : hk ≤ 9) : Ok (fX9_count_r hn hk hG) (fun _ => True) := by
  unfold fX9_count_r
  refine Ok.bind (Ok.ct (P := fun _ => True) (fun _ => True) (fun s_1 => s_1.2) (hn : Int) trivial (show (0 : Int) ≤ Int32.toInt 0 by decide) (by omega) (fun s_1 i_s_1 z_s_1 => ?_)) (fun b_1 h_b_1 => ?_)
  · refine Ok.ite (fun c2 => ?_) (fun c2 => ?_)
    · have d2 : (hn : Int) ≤ s_1.2.toInt := by rw [yi_le, yi_nI (by omega)] at c2; exact c2
      exact Ok.some trivial
    · have d2 : ¬ (hn : Int) ≤ s_1.2.toInt := by rw [yi_le, yi_nI (by omega)] at c2; exact c2
      refine Ok.grd (yi_in (by omega) (by omega)) ?_
      refine Ok.bind (Ok.ct (P := fun _ => True) (fun _ => True) (fun s_5 => s_5.2) (hk : Int) trivial (show (0 : Int) ≤ Int32.toInt 0 by decide) (by omega) (fun s_5 i_s_5 z_s_5 => ?_)) (fun b_5 h_b_5 => ?_)
      · refine Ok.ite (fun c4 => ?_) (fun c4 => ?_)
        · have d4 : (hk : Int) ≤ s_5.2.toInt := by rw [yi_le, yi_nI (by omega)] at c4; exact c4
          exact Ok.some trivial
        · have d4 : ¬ (hk : Int) ≤ s_5.2.toInt := by rw [yi_le, yi_nI (by omega)] at c4; exact c4
          refine Ok.grd (yi_in (by omega) (by omega)) ?_
          refine Ok.lt ?_
          refine Ok.bind (o_X9_one) (fun x_10 h_x_10 => ?_)
          exact Ok.some ⟨yi_nle c4 (by rw [yi_nI (by omega)]; exact Int.le_refl _), rfl, trivial⟩
      exact Ok.some ⟨yi_nle c2 (by rw [yi_nI (by omega)]; exact Int.le_refl _), rfl, trivial⟩
  exact Ok.some trivial
theorem o_X9_refuse_i {gth : Int32} {i1 : Int32} {i2 : Int32} (k_0 : gth = 0) (k_1 : 0 < i2.toInt) : Ok (fX9_refuse_i gth i1 i2) (fun r => (i1 = 0 ∧ r = (0, 0)) ∨ (¬ i1 = 0 ∧ r = (1, i2))) := by
  unfold fX9_refuse_i
  subst k_0
  by_cases h : i1 = 0
  · rw [if_pos h]
    exact ⟨(0, 0), by simp, Or.inl ⟨h, rfl⟩⟩
  · rw [if_neg h]
    have e : ¬ i2 ≤ 0 := fun z => by
      rw [yi_le] at z
      have z : i2.toInt ≤ 0 := z
      omega
    refine ⟨(1, i2), ?_, Or.inr ⟨h, rfl⟩⟩
    simp [e]
theorem o_X9_start_i {i1 : Int32} {i2 : Int32} (k_0 : 0 < i2.toInt) : Ok (fX9_start_i i1 i2) (fun r => (i1 = 0 ∧ r = (0, 0)) ∨ (¬ i1 = 0 ∧ r = (1, i2))) := by
  unfold fX9_start_i
  refine Ok.bind (o_X9_refuse_i (by first | assumption | rfl) (by first | assumption | rfl)) (fun x_1 h_x_1 => ?_)
  refine Ok.grd (by rcases h_x_1 with ⟨_, e⟩ | ⟨_, e⟩ <;> rw [e] <;> simp) ?_
  exact Ok.some h_x_1
theorem o_X9_refuse_r {gth : Int32} {i1 : Int32} {i2 : Int32} (k_0 : gth = 0) (k_1 : 0 < i2.toInt) : Ok (fX9_refuse_r gth i1 i2) (fun r => (i1 = 0 ∧ r = (0, 0)) ∨ (¬ i1 = 0 ∧ r = (1, i2))) := by
  unfold fX9_refuse_r
  subst k_0
  by_cases h : i1 = 0
  · rw [if_pos h]
    exact ⟨(0, 0), by simp, Or.inl ⟨h, rfl⟩⟩
  · rw [if_neg h]
    have e : ¬ i2 ≤ 0 := fun z => by
      rw [yi_le] at z
      have z : i2.toInt ≤ 0 := z
      omega
    refine ⟨(1, i2), ?_, Or.inr ⟨h, rfl⟩⟩
    simp [e]
theorem o_X9_start_r {i1 : Int32} {i2 : Int32} (k_0 : 0 < i2.toInt) : Ok (fX9_start_r i1 i2) (fun r => (i1 = 0 ∧ r = (0, 0)) ∨ (¬ i1 = 0 ∧ r = (1, i2))) := by
  unfold fX9_start_r
  refine Ok.bind (o_X9_refuse_r (by first | assumption | rfl) (by first | assumption | rfl)) (fun x_1 h_x_1 => ?_)
  refine Ok.grd (by rcases h_x_1 with ⟨_, e⟩ | ⟨_, e⟩ <;> rw [e] <;> simp) ?_
  exact Ok.some h_x_1
