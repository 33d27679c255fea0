def yCross (K : Nat → Nat → Int32) (m1 m2 : Nat) : Bool := yAny 5 (fun i => yAny 5 (fun j => yBit m1 i && (yBit m2 j && !decide (K i j = 0))))
def yTl (a b : Nat) : Nat := (a + b - 1) / b
def ySz (a b i : Nat) : Nat := min b (a - i * b)
theorem yTl_lt {a b i : Nat} (h1 : 1 ≤ b) (h : i < yTl a b) : i * b < a := by
  unfold yTl at h
  have e := Nat.div_mul_le_self (a + b - 1) b
  have e2 : (i + 1) * b ≤ (a + b - 1) / b * b := Nat.mul_le_mul_right b h
  rw [Nat.succ_mul] at e2
  omega
theorem ySz_of {a b i : Nat} (h1 : 1 ≤ b) (h : i < yTl a b) : 1 ≤ ySz a b i ∧ ySz a b i ≤ b ∧ i * b + ySz a b i ≤ a := by
  have := yTl_lt h1 h
  unfold ySz
  omega
theorem yTl_le {a b : Nat} (h1 : 1 ≤ b) : yTl a b ≤ a := by
  unfold yTl
  by_cases h : a = 0
  · subst h
    have : (0 + b - 1) / b = 0 := Nat.div_eq_of_lt (by omega)
    omega
  · have h2 : a + b - 1 ≤ a * b := by
      obtain ⟨x, rfl⟩ : ∃ x, a = x + 1 := ⟨a - 1, by omega⟩
      have : x ≤ x * b := Nat.le_mul_of_pos_right x h1
      rw [Nat.succ_mul]
      omega
    exact Nat.div_le_of_le_mul (by rw [Nat.mul_comm]; exact h2)
theorem yTl_pos {a b : Nat} (h1 : 1 ≤ b) (h : 1 ≤ a) : 1 ≤ yTl a b := by
  unfold yTl
  exact (Nat.le_div_iff_mul_le h1).mpr (by omega)
def yRowB (R C h w st i : Nat) : Nat := ySm (yTl C w) (fun j => ySz R h i + ySz C w j + st - 1)
def yBeats (R C h w st : Nat) : Nat := ySm (yTl R h) (yRowB R C h w st)
theorem ySm_le {n : Nat} {f : Nat → Nat} {b : Nat} (h : ∀ i, i < n → f i ≤ b) : ySm n f ≤ n * b := by
  induction n with
  | zero => exact Nat.zero_le _
  | succ n ih =>
    show ySm n f + f n ≤ (n + 1) * b
    rw [Nat.succ_mul]
    have := ih (fun i hi => h i (by omega))
    have := h n (by omega)
    omega
theorem yBeats_le {R C h w st : Nat} (hR : R ≤ 9) (hC : C ≤ 9) (h1 : 1 ≤ h) (h2 : h ≤ 5) (w1 : 1 ≤ w) (w2 : w ≤ 5) (hst : st ≤ 6) : yBeats R C h w st ≤ 1296 := by
  unfold yBeats
  have t1 := yTl_le (a := R) h1
  have t2 := yTl_le (a := C) w1
  have a1 : ∀ i, i < yTl R h → yRowB R C h w st i ≤ 144 := fun i hi => by
    unfold yRowB
    have b1 : ∀ j, j < yTl C w → ySz R h i + ySz C w j + st - 1 ≤ 16 := fun j hj => by
      have := ySz_of h1 hi
      have := ySz_of w1 hj
      omega
    have := ySm_le b1
    omega
  have := ySm_le a1
  omega
def yStep (x : Nat → Nat → Bool) (key : Nat → Nat → Nat) (a b : Nat) (z : Nat × Nat × Nat) : Nat × Nat × Nat := if x a b = true then z else if z.2.1 = 0 ∨ key a b < z.1 then (key a b, a, b) else z
def yBrow (x : Nat → Nat → Bool) (key : Nat → Nat → Nat) (a j : Nat) (z : Nat × Nat × Nat) : Nat × Nat × Nat := yFold j (fun b z => yStep x key a (b + 1) z) z
def yBall (x : Nat → Nat → Bool) (key : Nat → Nat → Nat) (i : Nat) : Nat × Nat × Nat := yFold i (fun a z => yBrow x key (a + 1) 31 z) (0, 0, 0)
def yKey (R C st a b : Nat) : Nat := 100 * yBeats R C (yPop a) (yPop b) st + yPop a * yPop b
def yBest (K : Nat → Nat → Int32) (R C st : Nat) : Nat × Nat × Nat := yBall (yCross K) (yKey R C st) 31
def yCnt (n : Nat) (p : Nat → Bool) : Nat := ySm n (fun i => if p i = true then 1 else 0)
theorem yCnt_le (n : Nat) (p : Nat → Bool) : yCnt n p ≤ n := by
  have := ySm_le (n := n) (f := fun i => if p i = true then 1 else 0) (b := 1) (fun i _ => by
    show (if p i = true then 1 else 0) ≤ 1
    split <;> omega)
  unfold yCnt
  omega
