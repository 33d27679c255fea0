/-! ===== what is drained is what plain reckoning gives ===== -/
theorem yFold_list {α : Type} (n : Nat) (f : Nat → α → α) (x : α) : yFold n f x = (List.range n).foldl (fun x t => f t x) x := by
  induction n with
  | zero => rfl
  | succ n ih =>
    rw [List.range_succ, List.foldl_append]
    show f n (yFold n f x) = _
    rw [ih]
    rfl
theorem yFold_ext {α : Type} {n : Nat} {f h : Nat → α → α} {x : α} (e : ∀ t, t < n → ∀ x, f t x = h t x) : yFold n f x = yFold n h x := by
  induction n with
  | zero => rfl
  | succ n ih =>
    show f n (yFold n f x) = h n (yFold n h x)
    rw [ih (fun t ht => e t (by omega)), e n (by omega)]
theorem yNth_list : ∀ k, k < 7 → ∀ m, m < 2 ^ k → (List.range (yPop m)).map (yNth m) = (List.range k).filter (yBit m) := by decide +kernel
theorem yFold_sub {α : Type} {k m : Nat} (hk : k < 7) (hm : m < 2 ^ k) (F : Nat → α → α) (x : α) : yFold (yPop m) (fun s x => F (yNth m s) x) x = yFold k (fun t x => if yBit m t = true then F t x else x) x := by
  rw [yFold_list, yFold_list]
  have h := List.foldl_map (f := yNth m) (g := fun (x : α) t => F t x) (l := List.range (yPop m)) (init := x)
  rw [← h, yNth_list k hk m hm, List.foldl_filter]
theorem ySk_bit {k t : Nat} {p : Nat → Bool} (ht : t < k) (h : yBit (ySk k p) t = true) : p t = true := by
  unfold ySk at h
  by_cases e : yBits k p = 2 ^ k - 1
  · have q := yBits_bit k p t ht
    rw [e, Nat.testBit_two_pow_sub_one] at q
    rw [← q]
    exact decide_eq_true ht
  · rw [if_neg e, yBit_tb, yBits_bit k p t ht] at h
    exact h
theorem yUs_bit : ∀ k, k < 7 → ∀ m, m < 2 ^ k → ∀ t, t < k → yBit (2 ^ k - 1 - m) t = !yBit m t := by decide +kernel
theorem ySum_z {n : Nat} {f : Nat → Int32} (h : ∀ i, i < n → f i = 0) : ySum n f = 0 := by
  induction n with
  | zero => rfl
  | succ n ih =>
    show ySum n f + f n = 0
    rw [ih (fun i hi => h i (by omega)), h n (by omega)]
    rfl
theorem yWith_idle {g r c i j t : Nat} {G H : Nat → Nat → Int32} {x : Int32} (h : yIdle g r G c H t = true) : yWith g x (yA r r G i t) (yBt c c H t j) = x := by
  unfold yIdle at h
  rw [Bool.and_eq_true, Bool.or_eq_true, beq_iff_eq] at h
  obtain ⟨rfl, h⟩ := h
  unfold yWith
  rw [if_pos rfl]
  rcases h with h | h
  · have a := yAll_to h
    have z : yA r r G i t = 0 := by
      unfold yA
      by_cases hi : i < r
      · rw [if_pos hi]
        exact of_decide_eq_true (a i hi)
      · rw [if_neg hi]
        exact ySum_z (fun i hi => of_decide_eq_true (a i hi))
    rw [z, Int32.zero_mul, Int32.add_zero]
  · have a := yAll_to h
    have z : yBt c c H t j = 0 := by
      unfold yBt
      by_cases hj : j < c
      · rw [if_pos hj]
        exact of_decide_eq_true (a j hj)
      · rw [if_neg hj]
        exact ySum_z (fun i hi => of_decide_eq_true (a i hi))
    rw [z, Int32.mul_zero, Int32.add_zero]
/-- a cell's sum behind its first q steps -/
def yPt (r k c g : Nat) (G H : Nat → Nat → Int32) (i j q : Nat) : Int32 := yFold q (fun s x => yWith g x (yA r r G i (yNth (yUs k (yIdle g r G c H)) s)) (yBt c c H (yNth (yUs k (yIdle g r G c H)) s) j)) (yFirst g)
theorem yPt_all {r k c g i j : Nat} {G H : Nat → Nat → Int32} (hk : k < 7) : yPt r k c g G H i j (yJst r k c g G H) = yPlain r k c g r G c H i j := by
  obtain ⟨u1, u2, u3⟩ := yUs_of (yIdle g r G c H) hk
  unfold yPt yPlain yJst
  rw [← u3, yFold_sub hk u1 (fun t x => yWith g x (yA r r G i t) (yBt c c H t j))]
  refine yFold_ext (fun t ht x => ?_)
  by_cases e : yBit (yUs k (yIdle g r G c H)) t = true
  · exact if_pos e
  · rw [if_neg e]
    refine (yWith_idle (ySk_bit ht ?_)).symm
    have q := yUs_bit k hk (ySk k (yIdle g r G c H)) (ySk_lt _) t ht
    unfold yUs at e
    rw [q] at e
    cases w : yBit (ySk k (yIdle g r G c H)) t
    · rw [w] at e
      exact absurd rfl e
    · rfl
theorem yNth_inj : ∀ m, m < 32 → ∀ i, i < yPop m → ∀ j, j < yPop m → yNth m i = yNth m j → i = j := by decide +kernel
/-- none of the layout's cells is broken -/
def yOKB (lr lc : Nat) (B : Nat → Nat → Int32) : Prop := ∀ i j, i < yPop lr → j < yPop lc → B (yNth lr i) (yNth lc j) = 0
def yW1 (r k c g : Nat) (G H : Nat → Nat → Int32) (top left go i j : Nat) (x : Int32) : Int32 := if i + j ≤ go ∧ go - i - j < yJst r k c g G H then yWith g x (yA r r G (top + i) (yNth (yUs k (yIdle g r G c H)) (go - i - j))) (yBt c c H (yNth (yUs k (yIdle g r G c H)) (go - i - j)) (left + j)) else x
theorem yCell_S {r k c g s lr lc ti go i j a b : Nat} {G H B : Nat → Nat → Int32} {z : Int64 × (Nat → Nat → Int32) × (Nat → Nat → Int32)} (Y : yLay lr lc) (hB : yOKB lr lc B) (hi : i < yPop lr) (hj : j < yPop lc) (ha : a < yPop lr) (hb : b < yPop lc) : (yCell r k c g s lr lc G H B ti go i j z).2.2 (yNth lr a) (yNth lc b) = if a = i ∧ b = j then yW1 r k c g G H (ti / yWd c s lc * yPop lr) (ti % yWd c s lc * yPop lc) go i j (z.2.2 (yNth lr i) (yNth lc j)) else z.2.2 (yNth lr a) (yNth lc b) := by
  unfold yCell yW1
  show (if i + j ≤ go ∧ go - i - j < yJst r k c g G H then _ else z).2.2 (yNth lr a) (yNth lc b) = _
  by_cases e : i + j ≤ go ∧ go - i - j < yJst r k c g G H
  · rw [if_pos e, if_pos e, hB i j hi hj]
    unfold upg upd
    dsimp only
    by_cases h1 : a = i
    · by_cases h2 : b = j
      · rw [if_pos (show yNth lr a = yNth lr i by rw [h1]), if_pos (show yNth lc b = yNth lc j by rw [h2]), if_pos (show a = i ∧ b = j from ⟨h1, h2⟩)]
        exact Int32.add_zero _
      · rw [if_pos (show yNth lr a = yNth lr i by rw [h1]), if_neg (show ¬ yNth lc b = yNth lc j from fun z => h2 (yNth_inj lc Y.2.2 b hb j hj z)), if_neg (show ¬ (a = i ∧ b = j) from fun z => h2 z.2), h1]
    · rw [if_neg (show ¬ yNth lr a = yNth lr i from fun z => h1 (yNth_inj lr Y.1.2 a ha i hi z)), if_neg (show ¬ (a = i ∧ b = j) from fun z => h1 z.1)]
  · rw [if_neg e, if_neg e]
    by_cases h : a = i ∧ b = j
    · rw [if_pos h, h.1, h.2]
    · rw [if_neg h]
theorem yRow_S {r k c g s lr lc ti go i n : Nat} {G H B : Nat → Nat → Int32} {z : Int64 × (Nat → Nat → Int32) × (Nat → Nat → Int32)} (Y : yLay lr lc) (hB : yOKB lr lc B) (hi : i < yPop lr) (hn : n ≤ yPop lc) : ∀ a b, a < yPop lr → b < yPop lc → (yWrow r k c g s lr lc G H B ti go i n z).2.2 (yNth lr a) (yNth lc b) = if a = i ∧ b < n then yW1 r k c g G H (ti / yWd c s lc * yPop lr) (ti % yWd c s lc * yPop lc) go a b (z.2.2 (yNth lr a) (yNth lc b)) else z.2.2 (yNth lr a) (yNth lc b) := by
  induction n with
  | zero =>
    intro a b _ _
    rw [if_neg (fun h => absurd h.2 (Nat.not_lt_zero b))]
    rfl
  | succ n ih =>
    intro a b ha hb
    have q := ih (by omega)
    show (yCell r k c g s lr lc G H B ti go i n (yWrow r k c g s lr lc G H B ti go i n z)).2.2 (yNth lr a) (yNth lc b) = _
    rw [yCell_S Y hB hi (by omega) ha hb, q i n hi (by omega), q a b ha hb]
    by_cases h : a = i ∧ b = n
    · obtain ⟨rfl, rfl⟩ := h
      rw [if_pos ⟨rfl, rfl⟩, if_neg (fun h => absurd h.2 (Nat.lt_irrefl _)), if_pos ⟨rfl, Nat.lt_succ_self _⟩]
    · rw [if_neg h]
      by_cases h2 : a = i ∧ b < n
      · rw [if_pos h2, if_pos ⟨h2.1, Nat.lt_succ_of_lt h2.2⟩]
      · rw [if_neg h2, if_neg (fun w => h ⟨w.1, by
          have := w.2
          have : ¬ b < n := fun v => h2 ⟨w.1, v⟩
          omega⟩)]
theorem yWave_S {r k c g s lr lc ti go m : Nat} {G H B : Nat → Nat → Int32} {z : Int64 × (Nat → Nat → Int32) × (Nat → Nat → Int32)} (Y : yLay lr lc) (hB : yOKB lr lc B) (hm : m ≤ yPop lr) (hn : yTc c s lc ti ≤ yPop lc) : ∀ a b, a < yPop lr → b < yPop lc → (yWave r k c g s lr lc G H B ti go m z).2.2 (yNth lr a) (yNth lc b) = if a < m ∧ b < yTc c s lc ti then yW1 r k c g G H (ti / yWd c s lc * yPop lr) (ti % yWd c s lc * yPop lc) go a b (z.2.2 (yNth lr a) (yNth lc b)) else z.2.2 (yNth lr a) (yNth lc b) := by
  induction m with
  | zero =>
    intro a b _ _
    rw [if_neg (fun h => absurd h.1 (Nat.not_lt_zero a))]
    rfl
  | succ m ih =>
    intro a b ha hb
    have q := ih (by omega)
    show (yWrow r k c g s lr lc G H B ti go m (yTc c s lc ti) (yWave r k c g s lr lc G H B ti go m z)).2.2 (yNth lr a) (yNth lc b) = _
    rw [yRow_S Y hB (by omega) hn a b ha hb, q a b ha hb]
    by_cases h : a = m ∧ b < yTc c s lc ti
    · rw [if_pos h, if_neg (fun w => absurd w.1 (by omega)), if_pos ⟨by omega, h.2⟩]
    · rw [if_neg h]
      by_cases h2 : a < m ∧ b < yTc c s lc ti
      · rw [if_pos h2, if_pos ⟨by omega, h2.2⟩]
      · rw [if_neg h2, if_neg (fun w => h ⟨by
          have : ¬ a < m := fun v => h2 ⟨v, w.2⟩
          omega, w.2⟩)]
theorem yW1_pt {r k c g i j go top left : Nat} {G H : Nat → Nat → Int32} : yW1 r k c g G H top left go i j (yPt r k c g G H (top + i) (left + j) (min (yJst r k c g G H) (go - i - j))) = yPt r k c g G H (top + i) (left + j) (min (yJst r k c g G H) (go + 1 - i - j)) := by
  unfold yW1
  by_cases e : i + j ≤ go ∧ go - i - j < yJst r k c g G H
  · rw [if_pos e, show min (yJst r k c g G H) (go - i - j) = go - i - j by omega, show min (yJst r k c g G H) (go + 1 - i - j) = (go - i - j) + 1 by omega]
    rfl
  · rw [if_neg e, show min (yJst r k c g G H) (go + 1 - i - j) = min (yJst r k c g G H) (go - i - j) by omega]
theorem yDrow_S {lr lc top left i n a b : Nat} {S D : Nat → Nat → Int32} : yDrow lr lc top left S i n D a b = if a = top + i ∧ left ≤ b ∧ b < left + n then S (yNth lr i) (yNth lc (b - left)) else D a b := by
  induction n with
  | zero =>
    rw [if_neg (fun h => by omega)]
    rfl
  | succ n ih =>
    show upg (yDrow lr lc top left S i n D) (top + i) (left + n) (S (yNth lr i) (yNth lc n)) a b = _
    unfold upg upd
    by_cases h1 : a = top + i
    · subst h1
      rw [if_pos rfl]
      by_cases h2 : b = left + n
      · rw [if_pos h2, if_pos ⟨rfl, by omega, by omega⟩, show b - left = n by omega]
      · rw [if_neg h2, ih]
        by_cases h3 : left ≤ b ∧ b < left + n
        · rw [if_pos ⟨rfl, h3⟩, if_pos ⟨rfl, h3.1, by omega⟩]
        · rw [if_neg (fun w => h3 w.2), if_neg (fun w => h3 ⟨w.2.1, by omega⟩)]
    · rw [if_neg h1, ih, if_neg (fun w => h1 w.1), if_neg (fun w => h1 w.1)]
theorem yDrain_S {lr lc top left m n a b : Nat} {S D : Nat → Nat → Int32} : yDrain lr lc top left S m n D a b = if (top ≤ a ∧ a < top + m) ∧ left ≤ b ∧ b < left + n then S (yNth lr (a - top)) (yNth lc (b - left)) else D a b := by
  induction m with
  | zero =>
    rw [if_neg (fun h => by omega)]
    rfl
  | succ m ih =>
    show yDrow lr lc top left S m n (yDrain lr lc top left S m n D) a b = _
    rw [yDrow_S, ih]
    by_cases h : a = top + m ∧ left ≤ b ∧ b < left + n
    · rw [if_pos h, if_pos ⟨⟨by omega, by omega⟩, h.2⟩, show a - top = m by omega]
    · rw [if_neg h]
      by_cases h2 : (top ≤ a ∧ a < top + m) ∧ left ≤ b ∧ b < left + n
      · rw [if_pos h2, if_pos ⟨⟨h2.1.1, by omega⟩, h2.2⟩]
      · rw [if_neg h2, if_neg (fun w => by
          by_cases e : a = top + m
          · exact h ⟨e, w.2⟩
          · exact h2 ⟨⟨w.1.1, by omega⟩, w.2⟩)]
/-- where a place lies among the tiles -/
theorem yTile_of {r k c g s lr lc ti a b : Nat} (J : yJob r k c g s) (Y : yLay lr lc) (ha : a < r + s) (hb : b < c + s) (e : a / yPop lr * yWd c s lc + b / yPop lc = ti) : (ti / yWd c s lc * yPop lr ≤ a ∧ a < ti / yWd c s lc * yPop lr + yTr r c s lr lc ti) ∧ ti % yWd c s lc * yPop lc ≤ b ∧ b < ti % yWd c s lc * yPop lc + yTc c s lc ti := by
  obtain ⟨g1, g2, g3, g4, g5, g6⟩ := yGeo J Y
  have hbw : b / yPop lc < yWd c s lc := by
    apply Nat.div_lt_of_lt_mul
    have := yTl_cov (R := c + s) (h := yPop lc) g2.1
    unfold yWd
    rw [Nat.mul_comm]
    omega
  have e1 : ti / yWd c s lc = a / yPop lr := by
    rw [← e, Nat.mul_comm, Nat.mul_add_div g4.1, Nat.div_eq_of_lt hbw, Nat.add_zero]
  have e2 : ti % yWd c s lc = b / yPop lc := by
    rw [← e, Nat.mul_comm, Nat.mul_add_mod, Nat.mod_eq_of_lt hbw]
  have d1 := Nat.div_add_mod a (yPop lr)
  have d2 := Nat.div_add_mod b (yPop lc)
  have m1 := Nat.mod_lt a g1.1
  have m2 := Nat.mod_lt b g2.1
  rw [Nat.mul_comm] at d1 d2
  refine ⟨⟨?_, ?_⟩, ?_, ?_⟩
  · rw [e1]
    omega
  · unfold yTr ySz
    rw [e1]
    omega
  · rw [e2]
    omega
  · unfold yTc ySz
    rw [e2]
    omega
/-- .. and none of another one -/
theorem yTile_not {r k c g s lr lc ti a b : Nat} (J : yJob r k c g s) (Y : yLay lr lc) (h1 : ti / yWd c s lc * yPop lr ≤ a) (h2 : a < ti / yWd c s lc * yPop lr + yTr r c s lr lc ti) (h3 : ti % yWd c s lc * yPop lc ≤ b) (h4 : b < ti % yWd c s lc * yPop lc + yTc c s lc ti) : a / yPop lr * yWd c s lc + b / yPop lc = ti := by
  obtain ⟨g1, g2, g3, g4, g5, g6⟩ := yGeo J Y
  have t1 : yTr r c s lr lc ti ≤ yPop lr := by
    unfold yTr ySz
    omega
  have t2 : yTc c s lc ti ≤ yPop lc := by
    unfold yTc ySz
    omega
  have e1 : a / yPop lr = ti / yWd c s lc := by
    rw [Nat.div_eq_iff g1.1]
    omega
  have e2 : b / yPop lc = ti % yWd c s lc := by
    rw [Nat.div_eq_iff g2.1]
    omega
  rw [e1, e2, Nat.mul_comm]
  exact Nat.div_add_mod ti (yWd c s lc)
/-- what stands of sums and results while a work runs -/
def yV (r k c g s lr lc : Nat) (G H : Nat → Nat → Int32) (z : yRS) : Prop := (∀ i j, i < yTr r c s lr lc z.2.2.1 → j < yTc c s lc z.2.2.1 → z.2.2.2.2.2.1 (yNth lr i) (yNth lc j) = yPt r k c g G H (z.2.2.1 / yWd c s lc * yPop lr + i) (z.2.2.1 % yWd c s lc * yPop lc + j) (min (yJst r k c g G H) (z.2.2.2.1 - i - j))) ∧ ∀ a b, a < r + s → b < c + s → yDn (yPop lr) (yPop lc) (yWd c s lc) z.2.2.1 a b → z.2.2.2.2.2.2.2.2 a b = yPlain r k c g r G c H a b
def yVE (r k c g s : Nat) (G H : Nat → Nat → Int32) (z : yRS) : Prop := ∀ a b, a < r + s → b < c + s → z.2.2.2.2.2.2.2.2 a b = yPlain r k c g r G c H a b
theorem yDr_done {r k c g s lr lc ti go : Nat} {G H S2 D : Nat → Nat → Int32} (J : yJob r k c g s) (Y : yLay lr lc) (hti : ti < yNt r c s lr lc) (hgo : go + 1 = yTb r c s lr lc (yJst r k c g G H) ti) (hS : ∀ i j, i < yTr r c s lr lc ti → j < yTc c s lc ti → S2 (yNth lr i) (yNth lc j) = yPt r k c g G H (ti / yWd c s lc * yPop lr + i) (ti % yWd c s lc * yPop lc + j) (min (yJst r k c g G H) (go + 1 - i - j))) (hD : ∀ a b, a < r + s → b < c + s → yDn (yPop lr) (yPop lc) (yWd c s lc) ti a b → D a b = yPlain r k c g r G c H a b) : ∀ a b, a < r + s → b < c + s → yDn (yPop lr) (yPop lc) (yWd c s lc) (ti + 1) a b → yDrain lr lc (ti / yWd c s lc * yPop lr) (ti % yWd c s lc * yPop lc) S2 (yTr r c s lr lc ti) (yTc c s lc ti) (yD0 ti D) a b = yPlain r k c g r G c H a b := by
  intro a b ha hb hd
  have k6 := J.2.1.2
  have k1 := J.2.1.1
  have uu := yTr_of J Y hti
  have vv := yTc_of ti J Y
  unfold yDn at hd
  rw [yDrain_S]
  by_cases e : a / yPop lr * yWd c s lc + b / yPop lc = ti
  · have q := yTile_of J Y ha hb e
    rw [if_pos q, hS _ _ (by omega) (by omega), show ti / yWd c s lc * yPop lr + (a - ti / yWd c s lc * yPop lr) = a by omega, show ti % yWd c s lc * yPop lc + (b - ti % yWd c s lc * yPop lc) = b by omega]
    unfold yTb at hgo
    rw [show min (yJst r k c g G H) (go + 1 - (a - ti / yWd c s lc * yPop lr) - (b - ti % yWd c s lc * yPop lc)) = yJst r k c g G H by omega]
    exact yPt_all (by omega)
  · rw [if_neg (fun q => e (yTile_not J Y q.1.1 q.1.2 q.2.1 q.2.2))]
    unfold yD0
    by_cases h0 : ti = 0
    · exact absurd (Nat.le_antisymm (Nat.le_of_lt_succ hd) (by rw [h0]; exact Nat.zero_le _)) e
    · rw [if_neg h0]
      exact hD a b ha hb (Nat.lt_of_le_of_ne (Nat.le_of_lt_succ hd) e)
theorem yV_wave {r k c g s lr lc ti go : Nat} {G H B U S : Nat → Nat → Int32} {ta : Int64} (J : yJob r k c g s) (Y : yLay lr lc) (hB : yOKB lr lc B) (hti : ti < yNt r c s lr lc) (hS : ∀ i j, i < yTr r c s lr lc ti → j < yTc c s lc ti → S (yNth lr i) (yNth lc j) = yPt r k c g G H (ti / yWd c s lc * yPop lr + i) (ti % yWd c s lc * yPop lc + j) (min (yJst r k c g G H) (go - i - j))) : ∀ i j, i < yTr r c s lr lc ti → j < yTc c s lc ti → (yWave r k c g s lr lc G H B ti go (yTr r c s lr lc ti) (ta, U, S)).2.2 (yNth lr i) (yNth lc j) = yPt r k c g G H (ti / yWd c s lc * yPop lr + i) (ti % yWd c s lc * yPop lc + j) (min (yJst r k c g G H) (go + 1 - i - j)) := by
  intro i j hi hj
  have uu := yTr_of J Y hti
  have vv := yTc_of ti J Y
  rw [yWave_S Y hB uu.2.2.1 vv.2.2.1 i j (by omega) (by omega), if_pos ⟨hi, hj⟩]
  show yW1 r k c g G H _ _ go i j (S (yNth lr i) (yNth lc j)) = _
  rw [hS i j hi hj]
  exact yW1_pt
theorem yPt_0 {r k c g i j : Nat} {G H : Nat → Nat → Int32} : yPt r k c g G H i j 0 = yFirst g := rfl
theorem yV_fill {r k c g s lr lc ti : Nat} {G H S : Nat → Nat → Int32} (J : yJob r k c g s) (Y : yLay lr lc) (hti : ti < yNt r c s lr lc) : ∀ i j, i < yTr r c s lr lc ti → j < yTc c s lc ti → yFill g S (yNth lr i) (yNth lc j) = yPt r k c g G H (ti / yWd c s lc * yPop lr + i) (ti % yWd c s lc * yPop lc + j) (min (yJst r k c g G H) (0 - i - j)) := by
  intro i j hi hj
  have uu := yTr_of J Y hti
  have vv := yTc_of ti J Y
  have n1 := yNth_lt lr Y.1.2 i (by omega)
  have n2 := yNth_lt lc Y.2.2 j (by omega)
  rw [show min (yJst r k c g G H) (0 - i - j) = 0 by omega, yPt_0]
  exact if_pos ⟨n1, n2⟩
theorem yV_step {r k c g s lr lc : Nat} {G H B : Nat → Nat → Int32} {z q : yRS} (J : yJob r k c g s) (Y : yLay lr lc) (hB : yOKB lr lc B) (hI : yRI r k c g s lr lc (yJst r k c g G H) z) (h : yV r k c g s lr lc G H z) (e : yOneZ r k c g s lr lc G H B z = .inl q) : yV r k c g s lr lc G H q := by
  obtain ⟨be, ta, ti, go, U, S, Dn, Dk, D⟩ := z
  obtain ⟨i1, i2, i3⟩ := hI
  obtain ⟨h1, h2⟩ := h
  dsimp only at i1 i2 i3 h1 h2
  have w := yV_wave (go := go) (ta := ta) (U := U) J Y hB i1 h1
  unfold yOneZ yOne at e
  dsimp only at e
  rw [show ySt k (yIdle g r G c H) = yJst r k c g G H from rfl] at e
  by_cases hb : go + 1 = yTb r c s lr lc (yJst r k c g G H) ti
  · rw [if_pos hb] at e
    by_cases hl : yNt r c s lr lc ≤ ti + 1
    · rw [if_pos hl] at e
      cases e
    · rw [if_neg hl] at e
      cases e
      exact ⟨yV_fill J Y (by show ti + 1 < _; omega), yDr_done J Y i1 hb w h2⟩
  · rw [if_neg hb] at e
    cases e
    exact ⟨w, h2⟩
theorem yV_last {r k c g s lr lc : Nat} {G H B : Nat → Nat → Int32} {z q : yRS} (J : yJob r k c g s) (Y : yLay lr lc) (hB : yOKB lr lc B) (hI : yRI r k c g s lr lc (yJst r k c g G H) z) (h : yV r k c g s lr lc G H z) (e : yOneZ r k c g s lr lc G H B z = .inr q) : yVE r k c g s G H q := by
  obtain ⟨be, ta, ti, go, U, S, Dn, Dk, D⟩ := z
  obtain ⟨i1, i2, i3⟩ := hI
  obtain ⟨h1, h2⟩ := h
  dsimp only at i1 i2 i3 h1 h2
  have w := yV_wave (go := go) (ta := ta) (U := U) J Y hB i1 h1
  obtain ⟨g1, g2, g3, g4, g5, g6⟩ := yGeo J Y
  unfold yOneZ yOne at e
  dsimp only at e
  rw [show ySt k (yIdle g r G c H) = yJst r k c g G H from rfl] at e
  by_cases hb : go + 1 = yTb r c s lr lc (yJst r k c g G H) ti
  · rw [if_pos hb] at e
    by_cases hl : yNt r c s lr lc ≤ ti + 1
    · rw [if_pos hl] at e
      cases e
      intro a b ha hb2
      refine yDr_done J Y i1 hb w h2 a b ha hb2 ?_
      unfold yDn
      have c1 : a / yPop lr < yTl (r + s) (yPop lr) := by
        apply Nat.div_lt_of_lt_mul
        have := yTl_cov (R := r + s) (h := yPop lr) g1.1
        rw [Nat.mul_comm]
        omega
      have c2 : b / yPop lc < yWd c s lc := by
        apply Nat.div_lt_of_lt_mul
        have := yTl_cov (R := c + s) (h := yPop lc) g2.1
        unfold yWd
        rw [Nat.mul_comm]
        omega
      have c3 : (a / yPop lr + 1) * yWd c s lc ≤ yNt r c s lr lc := Nat.mul_le_mul_right _ c1
      rw [Nat.succ_mul] at c3
      omega
    · rw [if_neg hl] at e
      cases e
  · rw [if_neg hb] at e
    cases e
theorem yV_0 {r k c g s lr lc Dn Dk : Nat} {be : Int32} {ta : Int64} {G H U S D : Nat → Nat → Int32} (J : yJob r k c g s) (Y : yLay lr lc) : yV r k c g s lr lc G H (be, ta, 0, 0, U, yFill g S, Dn, Dk, D) := by
  obtain ⟨g1, g2, g3, g4, g5, g6⟩ := yGeo J Y
  exact ⟨yV_fill J Y g5, fun a b _ _ h => absurd h (Nat.not_lt_zero _)⟩
/-- how many beats are left falls by one each time -/
def yLeft (r k c g s lr lc : Nat) (G H : Nat → Nat → Int32) (z : yRS) : Nat := yFrom r c s lr lc (yJst r k c g G H) z.2.2.1 - z.2.2.2.1
theorem yLeft_pos {r k c g s lr lc : Nat} {G H : Nat → Nat → Int32} {z : yRS} (J : yJob r k c g s) (Y : yLay lr lc) (hI : yRI r k c g s lr lc (yJst r k c g G H) z) : 1 ≤ yLeft r k c g s lr lc G H z ∧ yLeft r k c g s lr lc G H z < 2000 := by
  have st := yJst_of G H J
  have k6 := J.2.1.2
  have ff := yFrom_step (st := yJst r k c g G H) hI.1
  have fl := yFrom_le (ti := z.2.2.1) (st := yJst r k c g G H) J Y st.1 (by omega)
  have := hI.2.1
  unfold yLeft
  omega
theorem yLeft_one {r k c g s lr lc : Nat} {G H B : Nat → Nat → Int32} {z : yRS} (J : yJob r k c g s) (Y : yLay lr lc) (hI : yRI r k c g s lr lc (yJst r k c g G H) z) : (∃ q, yOneZ r k c g s lr lc G H B z = .inl q ∧ yRI r k c g s lr lc (yJst r k c g G H) q ∧ yLeft r k c g s lr lc G H q + 1 = yLeft r k c g s lr lc G H z) ∨ ∃ q, yOneZ r k c g s lr lc G H B z = .inr q ∧ yLeft r k c g s lr lc G H z = 1 := by
  have hp := yLeft_pos J Y hI
  rcases yOne_inv (B := B) J Y hI with ⟨q, e, hq, w⟩ | ⟨q, e, -, -, w1, w2⟩
  · refine Or.inl ⟨q, e, hq, ?_⟩
    have hp2 := yLeft_pos J Y hq
    have ff := yFrom_step (st := yJst r k c g G H) hI.1
    have g2 : z.2.2.2.1 < yTb r c s lr lc (yJst r k c g G H) z.2.2.1 := hI.2.1
    unfold yLeft at *
    rcases w with ⟨w1, w2⟩ | ⟨w1, w2, w3⟩
    · rw [w1, w2]
      rw [w1, w2] at hp2
      omega
    · have w3 : z.2.2.2.1 + 1 = yTb r c s lr lc (yJst r k c g G H) z.2.2.1 := w3
      rw [w1, w2]
      omega
  · refine Or.inr ⟨q, e, ?_⟩
    have ff := yFrom_step (st := yJst r k c g G H) hI.1
    have w2 : z.2.2.2.1 + 1 = yTb r c s lr lc (yJst r k c g G H) z.2.2.1 := w2
    have f0 : yFrom r c s lr lc (yJst r k c g G H) (z.2.2.1 + 1) = 0 := yFrom_0 (by omega)
    unfold yLeft
    omega
theorem yRun_left {r k c g s lr lc : Nat} {G H B : Nat → Nat → Int32} {z : yRS} (J : yJob r k c g s) (Y : yLay lr lc) (hI : yRI r k c g s lr lc (yJst r k c g G H) z) (n : Nat) : (∃ q, yRun r k c g s lr lc G H B z n = .inl q ∧ yRI r k c g s lr lc (yJst r k c g G H) q ∧ yLeft r k c g s lr lc G H q + n = yLeft r k c g s lr lc G H z) ∨ ∃ q, yRun r k c g s lr lc G H B z n = .inr q ∧ yLeft r k c g s lr lc G H z ≤ n := by
  induction n with
  | zero => exact Or.inl ⟨z, rfl, hI, rfl⟩
  | succ n ih =>
    rcases ih with ⟨q, e, hq, w⟩ | ⟨q, e, w⟩
    · rcases yLeft_one (B := B) J Y hq with ⟨p, e2, hp, w2⟩ | ⟨p, e2, w2⟩
      · refine Or.inl ⟨p, ?_, hp, by omega⟩
        show (match yRun r k c g s lr lc G H B z n with
          | .inl q => yOneZ r k c g s lr lc G H B q
          | .inr q => .inr q) = _
        rw [e]
        exact e2
      · refine Or.inr ⟨p, ?_, by omega⟩
        show (match yRun r k c g s lr lc G H B z n with
          | .inl q => yOneZ r k c g s lr lc G H B q
          | .inr q => .inr q) = _
        rw [e]
        exact e2
    · refine Or.inr ⟨q, ?_, by omega⟩
      show (match yRun r k c g s lr lc G H B z n with
        | .inl q => yOneZ r k c g s lr lc G H B q
        | .inr q => .inr q) = _
      rw [e]
