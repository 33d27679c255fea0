/-! ===== one bent result is found and mended ===== -/
theorem ySum_add (n : Nat) (f h : Nat → Int32) : ySum n (fun i => f i + h i) = ySum n f + ySum n h := by
  induction n with
  | zero => rfl
  | succ n ih =>
    show ySum n (fun i => f i + h i) + (f n + h n) = ySum n f + f n + (ySum n h + h n)
    rw [ih, Int32.add_assoc, Int32.add_assoc]
    congr 1
    rw [← Int32.add_assoc, ← Int32.add_assoc, Int32.add_comm (ySum n h) (f n)]
theorem ySum_mul (n : Nat) (x : Int32) (f : Nat → Int32) : ySum n (fun i => x * f i) = x * ySum n f := by
  induction n with
  | zero => exact (Int32.mul_zero).symm
  | succ n ih =>
    show ySum n (fun i => x * f i) + x * f n = x * (ySum n f + f n)
    rw [ih, Int32.mul_add]
theorem ySum_mulr (n : Nat) (x : Int32) (f : Nat → Int32) : ySum n (fun i => f i * x) = ySum n f * x := by
  induction n with
  | zero => exact (Int32.zero_mul).symm
  | succ n ih =>
    show ySum n (fun i => f i * x) + f n * x = (ySum n f + f n) * x
    rw [ih, Int32.add_mul]
theorem ySum_swap (n m : Nat) (f : Nat → Nat → Int32) : ySum n (fun i => ySum m (fun j => f i j)) = ySum m (fun j => ySum n (fun i => f i j)) := by
  induction n with
  | zero => exact (ySum_z (fun j _ => rfl)).symm
  | succ n ih =>
    show ySum n (fun i => ySum m (fun j => f i j)) + ySum m (fun j => f n j) = ySum m (fun j => ySum n (fun i => f i j) + f n j)
    rw [ih, ySum_add]
theorem yPlain_0 {r k c i j : Nat} {G H : Nat → Nat → Int32} : yPlain r k c 0 r G c H i j = ySum k (fun t => yA r r G i t * yBt c c H t j) := by
  unfold yPlain
  induction k with
  | zero => rfl
  | succ k ih =>
    show yWith 0 (yFold k _ (yFirst 0)) (yA r r G i k) (yBt c c H k j) = ySum k _ + yA r r G i k * yBt c c H k j
    rw [ih]
    exact if_pos rfl
theorem neg_add_self' (a : Int32) : -a + a = 0 := by
  rw [Int32.add_comm]
  exact Int32.add_right_neg a
theorem yPlain_row {r k c i : Nat} {G H : Nat → Nat → Int32} : yErr (c + 1) (fun j => yPlain r k c 0 r G c H i j) = 0 := by
  unfold yErr
  rw [Nat.add_sub_cancel]
  have e : ySum c (fun j => yPlain r k c 0 r G c H i j) = yPlain r k c 0 r G c H i c := by
    rw [yPlain_0, ySum_ext (g := fun j => ySum k (fun t => yA r r G i t * yBt c c H t j)) (fun j _ => yPlain_0), ySum_swap]
    refine ySum_ext (fun t _ => ?_)
    rw [ySum_mul]
    congr 1
    unfold yBt
    rw [if_neg (Nat.lt_irrefl c)]
    exact ySum_ext (fun j hj => if_pos hj)
  rw [e]
  exact neg_add_self' _
theorem yPlain_col {r k c j : Nat} {G H : Nat → Nat → Int32} : yErr (r + 1) (fun i => yPlain r k c 0 r G c H i j) = 0 := by
  unfold yErr
  rw [Nat.add_sub_cancel]
  have e : ySum r (fun i => yPlain r k c 0 r G c H i j) = yPlain r k c 0 r G c H r j := by
    rw [yPlain_0, ySum_ext (g := fun i => ySum k (fun t => yA r r G i t * yBt c c H t j)) (fun i _ => yPlain_0), ySum_swap]
    refine ySum_ext (fun t _ => ?_)
    rw [ySum_mulr]
    congr 1
    unfold yA
    rw [if_neg (Nat.lt_irrefl r)]
    exact ySum_ext (fun i hi => if_pos hi)
  rw [e]
  exact neg_add_self' _
theorem yErr_ext {n : Nat} {f h : Nat → Int32} (hn : 1 ≤ n) (e : ∀ i, i < n → f i = h i) : yErr n f = yErr n h := by
  unfold yErr
  rw [e (n - 1) (by omega), ySum_ext (fun i hi => e i (by omega))]
theorem ySum_bent {n j : Nat} {f : Nat → Int32} {d : Int32} (hj : j < n) : ySum n (fun i => if i = j then f i + d else f i) = ySum n f + d := by
  induction n with
  | zero => exact absurd hj (Nat.not_lt_zero j)
  | succ n ih =>
    show ySum n (fun i => if i = j then f i + d else f i) + (if n = j then f n + d else f n) = ySum n f + f n + d
    by_cases e : n = j
    · rw [if_pos e, ySum_ext (g := f) (fun i hi => if_neg (by omega)), Int32.add_assoc]
    · rw [if_neg e, ih (by omega), Int32.add_assoc, Int32.add_assoc, Int32.add_comm d (f n)]
theorem yErr_bent {n j : Nat} {f : Nat → Int32} {d : Int32} (hj : j < n) : yErr n (fun i => if i = j then f i + d else f i) = if j = n - 1 then yErr n f + -d else yErr n f + d := by
  unfold yErr
  dsimp only
  by_cases e : j = n - 1
  · rw [if_pos e, if_pos e.symm, ySum_ext (f := fun i => if i = j then f i + d else f i) (g := f) (fun i hi => if_neg (by omega)), Int32.neg_add, Int32.sub_eq_add_neg, Int32.add_assoc, Int32.add_assoc, Int32.add_comm (-d)]
  · rw [if_neg e, if_neg (fun z => e z.symm), ySum_bent (by omega), ← Int32.add_assoc]
theorem yCnt_none {n : Nat} {p : Nat → Bool} (h : ∀ i, i < n → p i = false) : yCnt n p = 0 := by
  induction n with
  | zero => rfl
  | succ n ih =>
    rw [yCnt_s, ih (fun i hi => h i (by omega)), h n (by omega)]
    rfl
theorem yCnt_single {n i0 : Nat} {p : Nat → Bool} (hi : i0 < n) (h1 : p i0 = true) (h : ∀ i, i < n → i ≠ i0 → p i = false) : yCnt n p = 1 ∧ yLast n p = i0 := by
  induction n with
  | zero => exact absurd hi (Nat.not_lt_zero i0)
  | succ n ih =>
    rw [yCnt_s, yLast_s]
    by_cases e : n = i0
    · rw [e, h1, if_pos rfl, if_pos rfl, yCnt_none (fun i hi => h i (by omega) (by omega))]
      exact ⟨rfl, rfl⟩
    · rw [h n (by omega) e]
      have q := ih (by omega) (fun i hi2 => h i (by omega))
      exact ⟨q.1, q.2⟩
/-- all lines add up -/
def ySums (Rn Rk : Nat) (R : Nat → Nat → Int32) : Prop := (∀ i, i < Rn → yErr Rk (fun j => R i j) = 0) ∧ ∀ j, j < Rk → yErr Rn (fun i => R i j) = 0
theorem ySums_ok {Rn Rk : Nat} {R : Nat → Nat → Int32} (h : ySums Rn Rk R) : yVerd Rn Rk R = 0 := by
  unfold yVerd
  refine if_pos ⟨yCnt_none (fun i hi => ?_), yCnt_none (fun j hj => ?_)⟩
  · unfold yRw
    rw [h.1 i hi]
    rfl
  · unfold yCw
    rw [h.2 j hj]
    rfl
theorem upg_row {R : Nat → Nat → Int32} {i0 j0 i : Nat} {v : Int32} : (fun j => upg R i0 j0 (R i0 j0 + v) i j) = if i = i0 then (fun j => if j = j0 then R i j + v else R i j) else fun j => R i j := by
  funext j
  unfold upg upd
  by_cases h : i = i0
  · rw [if_pos h, if_pos h, h]
    by_cases h2 : j = j0
    · rw [if_pos h2, if_pos h2, h2]
    · rw [if_neg h2, if_neg h2]
  · rw [if_neg h, if_neg h]
theorem upg_col {R : Nat → Nat → Int32} {i0 j0 j : Nat} {v : Int32} : (fun i => upg R i0 j0 (R i0 j0 + v) i j) = if j = j0 then (fun i => if i = i0 then R i j + v else R i j) else fun i => R i j := by
  funext i
  unfold upg upd
  by_cases h : i = i0
  · rw [if_pos h]
    by_cases h2 : j = j0
    · rw [if_pos h2, if_pos h2, if_pos h, h, h2]
    · rw [if_neg h2, if_neg h2, h]
  · rw [if_neg h]
    by_cases h2 : j = j0
    · rw [if_pos h2, if_neg h]
    · rw [if_neg h2]
theorem zero_add' (a : Int32) : 0 + a = a := by rw [Int32.add_comm, Int32.add_zero]
theorem yBent_row {Rn Rk i0 j0 : Nat} {R : Nat → Nat → Int32} {d : Int32} (h : ySums Rn Rk R) (hi : i0 < Rn) (hj : j0 < Rk) : yErr Rk (fun j => upg R i0 j0 (R i0 j0 + d) i0 j) = (if j0 = Rk - 1 then -d else d) ∧ ∀ i, i < Rn → i ≠ i0 → yErr Rk (fun j => upg R i0 j0 (R i0 j0 + d) i j) = 0 := by
  refine ⟨?_, fun i hi2 hne => ?_⟩
  · rw [upg_row, if_pos rfl, yErr_bent hj, h.1 i0 hi, zero_add', zero_add']
  · rw [upg_row, if_neg hne, h.1 i hi2]
theorem yBent_col {Rn Rk i0 j0 : Nat} {R : Nat → Nat → Int32} {d : Int32} (h : ySums Rn Rk R) (hi : i0 < Rn) (hj : j0 < Rk) : yErr Rn (fun i => upg R i0 j0 (R i0 j0 + d) i j0) = (if i0 = Rn - 1 then -d else d) ∧ ∀ j, j < Rk → j ≠ j0 → yErr Rn (fun i => upg R i0 j0 (R i0 j0 + d) i j) = 0 := by
  refine ⟨?_, fun j hj2 hne => ?_⟩
  · rw [upg_col, if_pos rfl, yErr_bent hi, h.2 j0 hj, zero_add', zero_add']
  · rw [upg_col, if_neg hne, h.2 j hj2]
theorem neg_ne {d : Int32} (h : d ≠ 0) : -d ≠ 0 := fun z => h (ng0 z)
theorem yBent {Rn Rk i0 j0 : Nat} {R : Nat → Nat → Int32} {d : Int32} (h : ySums Rn Rk R) (hi : i0 < Rn) (hj : j0 < Rk) (hd : d ≠ 0) : yVerd Rn Rk (upg R i0 j0 (R i0 j0 + d)) = 1 ∧ yJr Rn Rk (upg R i0 j0 (R i0 j0 + d)) = i0 ∧ yJc Rn Rk (upg R i0 j0 (R i0 j0 + d)) = j0 ∧ yRowD Rn Rk (upg R i0 j0 (R i0 j0 + d)) i0 j0 = -d := by
  obtain ⟨b1, b2⟩ := yBent_row (d := d) h hi hj
  obtain ⟨b3, b4⟩ := yBent_col (d := d) h hi hj
  have nz1 : ¬ (if j0 = Rk - 1 then -d else d) = 0 := by
    split
    · exact neg_ne hd
    · exact hd
  have nz2 : ¬ (if i0 = Rn - 1 then -d else d) = 0 := by
    split
    · exact neg_ne hd
    · exact hd
  obtain ⟨c1, c2⟩ := yCnt_single (p := yRw Rk (upg R i0 j0 (R i0 j0 + d))) hi (by
    unfold yRw
    rw [b1, decide_eq_false nz1]
    rfl) (fun i hi2 hne => by
    unfold yRw
    rw [b2 i hi2 hne]
    rfl)
  obtain ⟨c3, c4⟩ := yCnt_single (p := yCw Rn (upg R i0 j0 (R i0 j0 + d))) hj (by
    unfold yCw
    rw [b3, decide_eq_false nz2]
    rfl) (fun j hj2 hne => by
    unfold yCw
    rw [b4 j hj2 hne]
    rfl)
  have r1 : yRowD Rn Rk (upg R i0 j0 (R i0 j0 + d)) i0 j0 = -d := by
    unfold yRowD
    by_cases e : j0 = Rk - 1
    · rw [if_pos e, b1, if_pos e]
    · rw [if_neg e, b1, if_neg e]
  have r2 : yColD Rn Rk (upg R i0 j0 (R i0 j0 + d)) i0 j0 = -d := by
    unfold yColD
    by_cases e : i0 = Rn - 1
    · rw [if_pos e, b3, if_pos e]
    · rw [if_neg e, b3, if_neg e]
  have e1 : yJr Rn Rk (upg R i0 j0 (R i0 j0 + d)) = i0 := c2
  have e2 : yJc Rn Rk (upg R i0 j0 (R i0 j0 + d)) = j0 := c4
  refine ⟨?_, e1, e2, r1⟩
  unfold yVerd
  rw [c1, c3, e1, e2, r1, r2, if_neg (fun z => absurd z.1 (by decide)), if_pos ⟨rfl, rfl, rfl⟩]
theorem yMend {R : Nat → Nat → Int32} {i0 j0 : Nat} {d : Int32} : upg R i0 j0 (R i0 j0 + d) i0 j0 + -d = R i0 j0 := by
  rw [upg_v, Int32.add_assoc, Int32.add_right_neg, Int32.add_zero]
theorem ySums_plain {r k c : Nat} {G H R : Nat → Nat → Int32} (h : ∀ i j, i < r + 1 → j < c + 1 → R i j = yPlain r k c 0 r G c H i j) : ySums (r + 1) (c + 1) R := ⟨fun i hi => by
  rw [yErr_ext (by omega) (fun j hj => h i j hi hj)]
  exact yPlain_row, fun j hj => by
  rw [yErr_ext (by omega) (fun i hi => h i j hi hj)]
  exact yPlain_col⟩
