def yIn (x : Int32) (a b : Int) : Bool := decide (a ≤ x.toInt ∧ x.toInt ≤ b)
def yN (x : Int32) : Nat := if x = 0 then 0 else 1
theorem nj_yb (a : Nat) (x : Int32) : nI a + yb (!decide (x = 0)) = nI (a + yN x) := by
  unfold yN
  by_cases h : x = 0
  · rw [decide_eq_true h, if_pos h]
    exact nj_add a 0
  · rw [decide_eq_false h, if_neg h]
    exact nj_add a 1
def yCount (n k : Nat) (G : Nat → Nat → Int32) : Nat := ySm n (fun i => ySm k (fun j => yN (G i j)))
def yTop (n : Nat) (B K : Nat → Nat → Int32) : Nat → Nat → Int32 := fun i => if i < n then B i else K i
def yBT (R C st : Nat) (z : Nat × Nat × Nat) (i1 : Int32) : Int32 := if z.2.1 = 0 then -1 else if i1 = 0 then nI (yBeats R C (yPop z.2.1) (yPop z.2.2) st) else if i1 = 1 then nI z.2.1 else if i1 = 2 then nI z.2.2 else if i1 = 3 then nI (yTl R (yPop z.2.1) * yTl C (yPop z.2.2)) else nI (st * (R * yTl C (yPop z.2.2) + C * yTl R (yPop z.2.1)))
def yJst (r k c g : Nat) (G H : Nat → Nat → Int32) : Nat := ySt k (yIdle g r G c H)
def yJb (r k c g s : Nat) (G H K : Nat → Nat → Int32) : Nat × Nat × Nat := yBest K (r + s) (c + s) (yJst r k c g G H)
theorem yJst_of {r k c g s : Nat} (G H : Nat → Nat → Int32) (J : yJob r k c g s) : 1 ≤ yJst r k c g G H ∧ yJst r k c g G H ≤ k := by
  obtain ⟨⟨a1, a2⟩, ⟨a3, a4⟩, ⟨a5, a6⟩, a7, a8⟩ := id J
  exact ySt_of _ (by omega) a3
def ySvi (r k c g s : Nat) (G H K : Nat → Nat → Int32) : Int32 := if (yJb r k c g s G H K).2.1 = 0 then 0 else yBT (r + s) (c + s) (yJst r k c g G H) (yJb r k c g s G H K) 3 * nI (k - yJst r k c g G H)
