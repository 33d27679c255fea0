theorem bto {α β : Type} {o : Option α} {r : α} {f : α → Option β} {q : Option β} (e : o = some r) (k : f r = q) : o.bind f = q := by
  rw [e]
  exact k
theorem yb_iten (c : Prop) [Decidable c] : (if c then some (0 : Int32) else some 1) = some (yb (!decide c)) := by
  by_cases h : c
  · rw [if_pos h, decide_eq_true h]; rfl
  · rw [if_neg h, decide_eq_false h]; rfl
def yA (r n : Nat) (G : Nat → Nat → Int32) (i t : Nat) : Int32 := if i < r then G i t else ySum n (fun i => G i t)
def yBt (c n : Nat) (G : Nat → Nat → Int32) (t j : Nat) : Int32 := if j < c then G t j else ySum n (fun j => G t j)
def yWith (g : Nat) (x y z : Int32) : Int32 := if g = 0 then x + y * z else if g = 1 then xn_min x (y + z) else xn_max x (xn_min y z)
def yFirst (g : Nat) : Int32 := if g = 0 then 0 else if g = 1 then 999 else -999
def yIdle (g an : Nat) (G : Nat → Nat → Int32) (bk : Nat) (H : Nat → Nat → Int32) (t : Nat) : Bool := (g == 0) && (yAll an (fun i => decide (G i t = 0)) || yAll bk (fun j => decide (H t j = 0)))
def ySk (k : Nat) (p : Nat → Bool) : Nat := if yBits k p = 2 ^ k - 1 then yBits k p - 2 ^ (k - 1) else yBits k p
def ySt (k : Nat) (p : Nat → Bool) : Nat := k - yPop (ySk k p)
theorem sk_or1 : ∀ i, i < 6 → ∀ m, m < 2 ^ i → nI m ||| (nI 1 <<< (nI i &&& 31)) = nI (m + 2 ^ i) := by decide +kernel
theorem sk_all : ∀ k, k < 7 → ((1 : Int32) <<< (nI k &&& 31)) - 1 = nI (2 ^ k - 1) := by decide +kernel
theorem sk_fin : ∀ k, k < 7 → 1 ≤ k → nI (2 ^ k - 1) &&& (((1 : Int32) <<< ((nI k - 1) &&& 31)) ^^^ (-1)) = nI (2 ^ k - 1 - 2 ^ (k - 1)) := by decide +kernel
theorem sk_p2 : ∀ k, k < 7 → 2 ^ k ≤ 64 := by decide +kernel
theorem sk_pop : ∀ k, k < 7 → 1 ≤ k → ∀ m, m < 2 ^ k → yPop (if m = 2 ^ k - 1 then m - 2 ^ (k - 1) else m) < k := by decide +kernel
theorem ySk_lt {k : Nat} (p : Nat → Bool) : ySk k p < 2 ^ k := by
  unfold ySk
  have := yBits_lt k p
  by_cases h : yBits k p = 2 ^ k - 1
  · rw [if_pos h]; exact Nat.lt_of_le_of_lt (Nat.sub_le _ _) this
  · rw [if_neg h]; exact this
theorem ySt_of {k : Nat} (p : Nat → Bool) (h : k < 7) (h1 : 1 ≤ k) : 1 ≤ ySt k p ∧ ySt k p ≤ k := by
  unfold ySt ySk
  have := sk_pop k h h1 (yBits k p) (yBits_lt k p)
  omega
def yPlain (r k c g an : Nat) (G : Nat → Nat → Int32) (bk : Nat) (H : Nat → Nat → Int32) (i j : Nat) : Int32 := yFold k (fun t x => yWith g x (yA r an G i t) (yBt c bk H t j)) (yFirst g)
