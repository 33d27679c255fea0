def yJob (r k c g s : Nat) : Prop := (1 ≤ r ∧ r ≤ 8) ∧ (1 ≤ k ∧ k ≤ 6) ∧ (1 ≤ c ∧ c ≤ 8) ∧ g ≤ 2 ∧ s ≤ 1
def yLay (lr lc : Nat) : Prop := (1 ≤ lr ∧ lr < 32) ∧ 1 ≤ lc ∧ lc < 32
def yWd (c s lc : Nat) : Nat := yTl (c + s) (yPop lc)
def yNt (r c s lr lc : Nat) : Nat := yTl (r + s) (yPop lr) * yWd c s lc
def yTr (r c s lr lc ti : Nat) : Nat := ySz (r + s) (yPop lr) (ti / yWd c s lc)
def yTc (c s lc ti : Nat) : Nat := ySz (c + s) (yPop lc) (ti % yWd c s lc)
def yTb (r c s lr lc st ti : Nat) : Nat := yTr r c s lr lc ti + yTc c s lc ti + st - 1
theorem yGeo {r k c g s lr lc : Nat} (J : yJob r k c g s) (Y : yLay lr lc) : (1 ≤ yPop lr ∧ yPop lr ≤ 5) ∧ (1 ≤ yPop lc ∧ yPop lc ≤ 5) ∧ (1 ≤ yTl (r + s) (yPop lr) ∧ yTl (r + s) (yPop lr) ≤ 9) ∧ (1 ≤ yWd c s lc ∧ yWd c s lc ≤ 9) ∧ 1 ≤ yNt r c s lr lc ∧ yNt r c s lr lc ≤ 81 := by
  obtain ⟨⟨a1, a2⟩, ⟨a3, a4⟩, ⟨a5, a6⟩, a7, a8⟩ := J
  obtain ⟨⟨b1, b2⟩, b3, b4⟩ := Y
  have p1 := yPop_pos lr b2 b1
  have p2 := yPop_pos lc b4 b3
  have q1 := yPop_le lr b2
  have q2 := yPop_le lc b4
  have t1 := yTl_le (a := r + s) p1
  have t2 := yTl_le (a := c + s) p2
  have u1 := yTl_pos (a := r + s) p1 (by omega)
  have u2 := yTl_pos (a := c + s) p2 (by omega)
  have m1 : yTl (r + s) (yPop lr) * yTl (c + s) (yPop lc) ≤ 9 * 9 := Nat.mul_le_mul (by omega) (by omega)
  have m2 : 1 * 1 ≤ yTl (r + s) (yPop lr) * yTl (c + s) (yPop lc) := Nat.mul_le_mul u1 u2
  unfold yNt yWd
  refine ⟨⟨p1, q1⟩, ⟨p2, q2⟩, ⟨u1, by omega⟩, ⟨u2, by omega⟩, by omega, by omega⟩
theorem yTr_of {r k c g s lr lc ti : Nat} (J : yJob r k c g s) (Y : yLay lr lc) (h : ti < yNt r c s lr lc) : ti / yWd c s lc < yTl (r + s) (yPop lr) ∧ 1 ≤ yTr r c s lr lc ti ∧ yTr r c s lr lc ti ≤ yPop lr ∧ ti / yWd c s lc * yPop lr + yTr r c s lr lc ti ≤ r + s := by
  obtain ⟨g1, g2, g3, g4, g5, g6⟩ := yGeo J Y
  have h1 : ti / yWd c s lc < yTl (r + s) (yPop lr) := Nat.div_lt_of_lt_mul (by rw [Nat.mul_comm]; exact h)
  have h2 := ySz_of g1.1 h1
  exact ⟨h1, h2⟩
theorem yTc_of {r k c g s lr lc : Nat} (ti : Nat) (J : yJob r k c g s) (Y : yLay lr lc) : ti % yWd c s lc < yWd c s lc ∧ 1 ≤ yTc c s lc ti ∧ yTc c s lc ti ≤ yPop lc ∧ ti % yWd c s lc * yPop lc + yTc c s lc ti ≤ c + s := by
  obtain ⟨g1, g2, g3, g4, g5, g6⟩ := yGeo J Y
  have h1 : ti % yWd c s lc < yWd c s lc := Nat.mod_lt _ g4.1
  exact ⟨h1, ySz_of g2.1 h1⟩
theorem mod_nI {a b : Nat} (ha : a < 2147483648) (hb : b < 2147483648) : nI a - nI a / nI b * nI b = nI (a % b) := by
  rw [nj_div ha hb, nj_mul, nj_sub (Nat.div_mul_le_self a b)]
  have e := Nat.div_add_mod a b
  rw [Nat.mul_comm] at e
  exact congrArg nI (by omega)
def yFill (g : Nat) (S : Nat → Nat → Int32) : Nat → Nat → Int32 := fun a b => if a < 5 ∧ b < 5 then yFirst g else S a b
theorem y_ifc {α : Type} {p q : Prop} [Decidable p] [Decidable q] {x y : α} (h : p ↔ q) : (if p then x else y) = (if q then x else y) := by
  by_cases e : p
  · rw [if_pos e, if_pos (h.mp e)]
  · rw [if_neg e, if_neg (fun z => e (h.mpr z))]
def yFrom (r c s lr lc st ti : Nat) : Nat := ySm (yNt r c s lr lc - ti) (fun d => yTb r c s lr lc st (ti + d))
theorem yTb_of {r k c g s lr lc ti st : Nat} (J : yJob r k c g s) (Y : yLay lr lc) (h : ti < yNt r c s lr lc) (h1 : 1 ≤ st) (h2 : st ≤ 6) : 2 ≤ yTb r c s lr lc st ti ∧ yTb r c s lr lc st ti ≤ 15 := by
  have u := yTr_of J Y h
  have v := yTc_of ti J Y
  have gg := yGeo J Y
  unfold yTb
  omega
theorem yFrom_le {r k c g s lr lc ti st : Nat} (J : yJob r k c g s) (Y : yLay lr lc) (h1 : 1 ≤ st) (h2 : st ≤ 6) : yFrom r c s lr lc st ti ≤ 1215 := by
  have gg := yGeo J Y
  unfold yFrom
  have := ySm_le (n := yNt r c s lr lc - ti) (f := fun d => yTb r c s lr lc st (ti + d)) (b := 15) (fun d hd => (yTb_of J Y (by omega) h1 h2).2)
  have : (yNt r c s lr lc - ti) * 15 ≤ 81 * 15 := Nat.mul_le_mul (by omega) (Nat.le_refl _)
  omega
theorem yPop_used : ∀ k, k < 7 → ∀ m, m < 2 ^ k → yPop (2 ^ k - 1 - m) = k - yPop m := by decide +kernel
def yUs (k : Nat) (p : Nat → Bool) : Nat := 2 ^ k - 1 - ySk k p
theorem yUs_of {k : Nat} (p : Nat → Bool) (h : k < 7) : yUs k p < 2 ^ k ∧ yUs k p < 64 ∧ yPop (yUs k p) = ySt k p := by
  have h1 := ySk_lt (k := k) p
  have h2 := sk_p2 k h
  unfold yUs ySt
  exact ⟨by omega, by omega, yPop_used k h _ h1⟩
def yCell (r k c g s lr lc : Nat) (G H B : Nat → Nat → Int32) (ti go i j : Nat) (z : Int64 × (Nat → Nat → Int32) × (Nat → Nat → Int32)) : Int64 × (Nat → Nat → Int32) × (Nat → Nat → Int32) := if i + j ≤ go ∧ go - i - j < ySt k (yIdle g r G c H) then (z.1 + 1, upg z.2.1 (yNth lr i) (yNth lc j) (z.2.1 (yNth lr i) (yNth lc j) + 1), upg z.2.2 (yNth lr i) (yNth lc j) (yWith g (z.2.2 (yNth lr i) (yNth lc j)) (yA r r G (ti / yWd c s lc * yPop lr + i) (yNth (yUs k (yIdle g r G c H)) (go - i - j))) (yBt c c H (yNth (yUs k (yIdle g r G c H)) (go - i - j)) (ti % yWd c s lc * yPop lc + j)) + yb (!decide (B (yNth lr i) (yNth lc j) = 0)))) else z
def yWrow (r k c g s lr lc : Nat) (G H B : Nat → Nat → Int32) (ti go i n : Nat) (z : Int64 × (Nat → Nat → Int32) × (Nat → Nat → Int32)) : Int64 × (Nat → Nat → Int32) × (Nat → Nat → Int32) := yFold n (fun j z => yCell r k c g s lr lc G H B ti go i j z) z
def yWave (r k c g s lr lc : Nat) (G H B : Nat → Nat → Int32) (ti go m : Nat) (z : Int64 × (Nat → Nat → Int32) × (Nat → Nat → Int32)) : Int64 × (Nat → Nat → Int32) × (Nat → Nat → Int32) := yFold m (fun i z => yWrow r k c g s lr lc G H B ti go i (yTc c s lc ti) z) z
def yDrow (lr lc top left : Nat) (S : Nat → Nat → Int32) (i n : Nat) (D : Nat → Nat → Int32) : Nat → Nat → Int32 := yFold n (fun j D => upg D (top + i) (left + j) (S (yNth lr i) (yNth lc j))) D
def yDrain (lr lc top left : Nat) (S : Nat → Nat → Int32) (m n : Nat) (D : Nat → Nat → Int32) : Nat → Nat → Int32 := yFold m (fun i D => yDrow lr lc top left S i n D) D
