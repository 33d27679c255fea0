/-! ===== a work that runs in the class ===== -/
def yT5 (f : Nat → Int32) (G : Nat → Nat → Int32) : Prop := ∀ i j, i < 5 → j < 5 → f (i * 9 + j) = G i j
theorem yT5_up {f : Nat → Int32} {G : Nat → Nat → Int32} {i j : Nat} {x : Int32} (h : yT5 f G) (hi : i < 5) (hj : j < 5) : yT5 (upd f (i * 9 + j) x) (upg G i j x) := by
  intro a b ha hb
  unfold upg upd
  by_cases h1 : a = i
  · by_cases h2 : b = j
    · rw [if_pos (by rw [h1, h2]), if_pos h1, if_pos h2]
    · rw [if_neg (by omega), if_pos h1, if_neg h2, h a b ha hb, h1]
  · rw [if_neg (by omega), if_neg h1]
    exact h a b ha hb
theorem c_member : ∀ m, m < 32 → ∀ i, i < yPop m → fX5_memberOf (nI m) (nI i) = some (nI (yNth m i)) := by decide +kernel
theorem c_memberS : ∀ k, k < 7 → ∀ m, m < 2 ^ k → ∀ s, s < yPop (2 ^ k - 1 - m) → fX5_memberOf (nI m ^^^ (-1)) (nI s) = some (nI (yNth (2 ^ k - 1 - m) s)) := by decide +kernel
theorem c_tileRows {fr R h : Nat} (hf : fr ≤ R) (hR : R < 100) (hh : h < 100) : fX5_tileRows (nI fr) (nI R) (nI h) = some (nI (min h (R - fr))) := by
  unfold fX5_tileRows
  rw [nj_sub hf, nj_min (by omega) (by omega)]
theorem c_tileColumns {fr R h : Nat} (hf : fr ≤ R) (hR : R < 100) (hh : h < 100) : fX5_tileColumns (nI fr) (nI R) (nI h) = some (nI (min h (R - fr))) := c_tileRows hf hR hh
theorem c_brokenAt {wb : Int32} {B : Nat → Nat → Int32} {i j : Nat} (h : yFlag wb B) (hi : i < 5) (hj : j < 5) : fX0_isBrokenAt wb (nI i) (nI j) = some (yb (!decide (B i j = 0))) := by
  unfold fX0_isBrokenAt
  refine bto c_bitOf ?_
  have hq : yBB wb (i * 5 + j) = !decide (B i j = 0) := by
    rw [h _ (by omega), decide_eq_true (show i * 5 + j < 25 by omega), Bool.true_and, show (i * 5 + j) / 5 = i by omega, show (i * 5 + j) % 5 = j by omega]
  rw [← hq]
  cases e : yBB wb (i * 5 + j)
  · refine if_pos ?_
    refine yBB_ext (fun q hq => ?_)
    rw [yBB_and, yBB_bit _ (by omega) q hq, yBB_0]
    by_cases c : q = i * 5 + j
    · rw [c, e, Bool.false_and]
    · rw [decide_eq_false c, Bool.and_false]
  · refine if_neg (fun z => ?_)
    have w : yBB (wb &&& ((1 : Int32) <<< (nI (i * 5 + j) &&& 31))) (i * 5 + j) = true := by
      rw [yBB_and, yBB_bit _ (by omega) _ (by omega), e, decide_eq_true rfl]
      rfl
    rw [z, yBB_0] at w
    exact absurd w (by decide)
theorem c_takeIn {wb x : Int32} {u m : Nat → Int32} {B : Nat → Nat → Int32} {i j : Nat} (h : yFlag wb B) (hi : i < 5) (hj : j < 5) : fX0_takeIn wb u m (nI i) (nI j) x = some (upd u (i * 9 + j) (u (i * 9 + j) + 1), upd m (i * 9 + j) (x + yb (!decide (B i j = 0)))) := by
  unfold fX0_takeIn
  refine bto (c_brokenAt h hi hj) ?_
  have e : (if yb (!decide (B i j = 0)) = 0 then some x else some (x + 1)) = some (x + yb (!decide (B i j = 0))) := by
    cases (!decide (B i j = 0))
    · refine (if_pos (by decide)).trans ?_
      show some x = some (x + 0)
      rw [Int32.add_zero]
    · exact if_neg (by decide)
  refine bto e ?_
  refine bto (e_set (by omega) (by omega)) ?_
  refine bto (e_get (by omega) (by omega)) ?_
  exact bto (e_set (by omega) (by omega)) rfl
theorem c_feed {r k c g s lr lc ti go i j : Nat} {f h u m : Nat → Int32} {G H B : Nat → Nat → Int32} {wb : Int32} {z : Int64 × (Nat → Nat → Int32) × (Nat → Nat → Int32)} (J : yJob r k c g s) (Y : yLay lr lc) (ht : ti < yNt r c s lr lc) (hf : yTq r k f G) (hh : yTq k c h H) (hB : yFlag wb B) (hgo : go < 1000) (hi : i < yTr r c s lr lc ti) (hj : j < yTc c s lc ti) (hu : yT5 u z.2.1) (hm : yT5 m z.2.2) : Ok (fX5_feed (nI (ySk k (yIdle g r G c H))) (nI (ti / yWd c s lc * yPop lr)) (nI (ti % yWd c s lc * yPop lc)) (nI go) (nI r) (nI c) (nI g) f h (nI (yJst r k c g G H)) (nI lr) (nI lc) wb u m (nI i) (nI j)) (fun o => yT5 o.1 (yCell r k c g s lr lc G H B ti go i j z).2.1 ∧ yT5 o.2 (yCell r k c g s lr lc G H B ti go i j z).2.2) := by
  obtain ⟨g1, g2, g3, g4, g5, g6⟩ := yGeo J Y
  have uu := yTr_of J Y ht
  have vv := yTc_of ti J Y
  obtain ⟨⟨a1, a2⟩, ⟨a3, a4⟩, ⟨a5, a6⟩, a7, a8⟩ := id J
  obtain ⟨⟨b1, b2⟩, b3, b4⟩ := id Y
  have us := yUs_of (k := k) (yIdle g r G c H) (by omega)
  have st := yJst_of G H J
  have sk := ySk_lt (k := k) (yIdle g r G c H)
  have hJ : yJst r k c g G H = ySt k (yIdle g r G c H) := rfl
  have n1 := yNth_lt lr b2 i (by omega)
  have n2 := yNth_lt lc b4 j (by omega)
  have tb := yi_nI (n := go) (by omega)
  have ti' := yi_nI (n := i) (by omega)
  have tj := yi_nI (n := j) (by omega)
  have tq := yi_nI (n := yJst r k c g G H) (by omega)
  have v1 : (nI go - nI i).toInt = (go : Int) - i := by rw [yi_sub (by omega) (by omega), tb, ti']
  have v2 : (nI go - nI i - nI j).toInt = (go : Int) - i - j := by rw [yi_sub (by omega) (by omega), v1, tj]
  unfold fX5_feed
  refine Ok.ite (fun w => ?_) (fun w => ?_)
  · rw [yi_lt, v2, yI0] at w
    have hC : yCell r k c g s lr lc G H B ti go i j z = z := if_neg (by omega)
    rw [hC]
    exact Ok.some ⟨hu, hm⟩
  rw [yi_lt, v2, yI0] at w
  refine Ok.ite (fun w2 => ?_) (fun w2 => ?_)
  · rw [yi_lt, v2, tq] at w2
    have hs : i + j ≤ go ∧ go - i - j < ySt k (yIdle g r G c H) := by omega
    have hC : yCell r k c g s lr lc G H B ti go i j z = _ := if_pos hs
    rw [hC]
    have n3 := yNth_k k (by omega) _ us.1 (go - i - j) (by rw [us.2.2]; exact hs.2)
    rw [nj_sub (by omega), nj_sub (by omega)]
    refine Ok.to (c_memberS k (by omega) _ sk (go - i - j) (by have := us.2.2; unfold yUs at this; rw [this]; exact hs.2)) ?_
    refine Ok.to (c_member lr b2 i (by omega)) ?_
    refine Ok.to (c_member lc b4 j (by omega)) ?_
    refine Ok.to (e_get (by omega) (by omega)) ?_
    rw [hm _ _ n1 n2, nj_add, nj_add]
    have n3' : yNth (2 ^ k - 1 - ySk k (yIdle g r G c H)) (go - i - j) < k := n3
    refine Ok.to (c_bring hf hh (by omega) (by omega) a7 (by omega) n3' (by omega) (by omega)) ?_
    refine Ok.to (c_takeIn hB n1 n2) ?_
    rw [hu _ _ n1 n2]
    exact Ok.some ⟨yT5_up hu n1 n2, yT5_up hm n1 n2⟩
  · rw [yi_lt, v2, tq] at w2
    have hC : yCell r k c g s lr lc G H B ti go i j z = z := if_neg (by omega)
    rw [hC]
    exact Ok.some ⟨hu, hm⟩
/-- cells of Q hold the same -/
def yRel (Q : Nat → Nat → Prop) (f : Nat → Int32) (G : Nat → Nat → Int32) : Prop := ∀ a b, a < 9 → b < 9 → Q a b → f (a * 9 + b) = G a b
theorem yRel_up {Q : Nat → Nat → Prop} {f : Nat → Int32} {G : Nat → Nat → Int32} {x y : Nat} {v : Int32} (h : yRel Q f G) (hx : x < 9) (hy : y < 9) : yRel (fun a b => Q a b ∨ (a = x ∧ b = y)) (upd f (x * 9 + y) v) (upg G x y v) := by
  intro a b ha hb hq
  unfold upg upd
  by_cases h1 : a = x
  · by_cases h2 : b = y
    · rw [if_pos (by rw [h1, h2]), if_pos h1, if_pos h2]
    · rw [if_neg (by omega), if_pos h1, if_neg h2, ← h1]
      exact h a b ha hb (hq.elim id (fun z => absurd z.2 h2))
  · rw [if_neg (by omega), if_neg h1]
    exact h a b ha hb (hq.elim id (fun z => absurd z.1 h1))
theorem yRel_mono {Q P : Nat → Nat → Prop} {f : Nat → Int32} {G : Nat → Nat → Int32} (h : yRel Q f G) (hp : ∀ a b, a < 9 → b < 9 → P a b → Q a b) : yRel P f G := fun a b ha hb hq => h a b ha hb (hp a b ha hb hq)
def yDn (h w wd ti a b : Nat) : Prop := a / h * wd + b / w < ti
theorem c_drain {r k c g s lr lc ti : Nat} {m v : Nat → Int32} {S D : Nat → Nat → Int32} (J : yJob r k c g s) (Y : yLay lr lc) (ht : ti < yNt r c s lr lc) (hm : yT5 m S) (hv : yRel (fun a b => a < r + s ∧ b < c + s ∧ yDn (yPop lr) (yPop lc) (yWd c s lc) ti a b) v D) : Ok (fX5_drain (nI (ti / yWd c s lc * yPop lr)) (nI (ti % yWd c s lc * yPop lc)) (nI (r + s)) (nI (c + s)) (nI lr) (nI lc) (nI (yPop lr)) (nI (yPop lc)) m v) (fun o => yRel (fun a b => a < r + s ∧ b < c + s ∧ yDn (yPop lr) (yPop lc) (yWd c s lc) (ti + 1) a b) o (yDrain lr lc (ti / yWd c s lc * yPop lr) (ti % yWd c s lc * yPop lc) S (yTr r c s lr lc ti) (yTc c s lc ti) D)) := by
  obtain ⟨g1, g2, g3, g4, g5, g6⟩ := yGeo J Y
  have uu := yTr_of J Y ht
  have vv := yTc_of ti J Y
  obtain ⟨⟨a1, a2⟩, ⟨a3, a4⟩, ⟨a5, a6⟩, a7, a8⟩ := id J
  obtain ⟨⟨b1, b2⟩, b3, b4⟩ := id Y
  have eR : fX5_tileRows (nI (ti / yWd c s lc * yPop lr)) (nI (r + s)) (nI (yPop lr)) = some (nI (yTr r c s lr lc ti)) := c_tileRows (by omega) (by omega) (by omega)
  have eC : fX5_tileColumns (nI (ti % yWd c s lc * yPop lc)) (nI (c + s)) (nI (yPop lc)) = some (nI (yTc c s lc ti)) := c_tileColumns (by omega) (by omega) (by omega)
  have fin : ∀ a b, a < 9 → b < 9 → (a < r + s ∧ b < c + s ∧ yDn (yPop lr) (yPop lc) (yWd c s lc) (ti + 1) a b) → (a < r + s ∧ b < c + s ∧ yDn (yPop lr) (yPop lc) (yWd c s lc) ti a b) ∨ ∃ i j, i < yTr r c s lr lc ti ∧ j < yTc c s lc ti ∧ a = ti / yWd c s lc * yPop lr + i ∧ b = ti % yWd c s lc * yPop lc + j := by
    intro a b ha hb hq
    obtain ⟨q1, q2, q3⟩ := hq
    unfold yDn at q3 ⊢
    by_cases e : a / yPop lr * yWd c s lc + b / yPop lc < ti
    · exact Or.inl ⟨q1, q2, e⟩
    · have e : a / yPop lr * yWd c s lc + b / yPop lc = ti := by omega
      have hbw : b / yPop lc < yWd c s lc := by
        apply Nat.div_lt_of_lt_mul
        have := yTl_cov (R := c + s) (h := yPop lc) g2.1
        unfold yWd
        rw [Nat.mul_comm]
        omega
      have e1 : ti / yWd c s lc = a / yPop lr := by
        rw [← e, Nat.mul_comm, Nat.mul_add_div g4.1, Nat.div_eq_of_lt hbw, Nat.add_zero]
      have e2 : ti % yWd c s lc = b / yPop lc := by
        rw [← e, Nat.mul_comm, Nat.mul_add_mod, Nat.mod_eq_of_lt hbw]
      have d1 := Nat.div_add_mod a (yPop lr)
      have d2 := Nat.div_add_mod b (yPop lc)
      have m1 := Nat.mod_lt a g1.1
      have m2 := Nat.mod_lt b g2.1
      refine Or.inr ⟨a % yPop lr, b % yPop lc, ?_, ?_, ?_, ?_⟩
      · unfold yTr ySz
        rw [e1, Nat.mul_comm]
        omega
      · unfold yTc ySz
        rw [e2, Nat.mul_comm]
        omega
      · rw [e1, Nat.mul_comm]
        omega
      · rw [e2, Nat.mul_comm]
        omega
  generalize ti / yWd c s lc * yPop lr = top at *
  generalize ti % yWd c s lc * yPop lc = left at *
  generalize yTr r c s lr lc ti = mm at *
  generalize yTc c s lc ti = nn at *
  unfold fX5_drain
  refine Ok.bind (Ok.for (P := fun (b : Int32 × (Nat → Int32)) => yRel (fun a b => (a < r + s ∧ b < c + s ∧ yDn (yPop lr) (yPop lc) (yWd c s lc) ti a b) ∨ ∃ i j, i < mm ∧ j < nn ∧ a = top + i ∧ b = left + j) b.2 (yDrain lr lc top left S mm nn D)) (fun (i : Nat) (z : Int32 × (Nat → Int32)) => z.1 = nI i ∧ yRel (fun a b => (a < r + s ∧ b < c + s ∧ yDn (yPop lr) (yPop lc) (yWd c s lc) ti a b) ∨ ∃ i' j, i' < i ∧ j < nn ∧ a = top + i' ∧ b = left + j) z.2 (yDrain lr lc top left S i nn D)) 0 mm ⟨rfl, ?_⟩ (Nat.zero_le _) (by omega) (fun i z _ hi hI => ?_) (fun z hI => ?_)) (fun b hb => Ok.some (yRel_mono hb fin))
  · exact yRel_mono hv (fun a b _ _ hq => hq.elim id (fun z => by obtain ⟨i, j, z1, _⟩ := z; omega))
  · obtain ⟨z1, z2⟩ := z
    obtain ⟨hz, hr⟩ := hI
    have hz : z1 = nI i := hz
    subst hz
    dsimp only at hr ⊢
    refine Ok.to eR ?_
    refine Ok.ite (fun w => absurd w (by rw [nj_le (by omega) (by omega)]; omega)) (fun _ => ?_)
    have hs : yDrain lr lc top left S (i + 1) nn D = yDrow lr lc top left S i nn (yDrain lr lc top left S i nn D) := rfl
    rw [hs]
    generalize yDrain lr lc top left S i nn D = D2 at hr ⊢
    refine Ok.bind (Ok.for (P := fun (b : Int32 × (Nat → Int32)) => yRel (fun a b => ((a < r + s ∧ b < c + s ∧ yDn (yPop lr) (yPop lc) (yWd c s lc) ti a b) ∨ ∃ i' j, i' < i ∧ j < nn ∧ a = top + i' ∧ b = left + j) ∨ ∃ j, j < nn ∧ a = top + i ∧ b = left + j) b.2 (yDrow lr lc top left S i nn D2)) (fun (j : Nat) (z : Int32 × (Nat → Int32)) => z.1 = nI j ∧ yRel (fun a b => ((a < r + s ∧ b < c + s ∧ yDn (yPop lr) (yPop lc) (yWd c s lc) ti a b) ∨ ∃ i' j, i' < i ∧ j < nn ∧ a = top + i' ∧ b = left + j) ∨ ∃ j', j' < j ∧ a = top + i ∧ b = left + j') z.2 (yDrow lr lc top left S i j D2)) 0 nn ⟨rfl, ?_⟩ (Nat.zero_le _) (by omega) (fun j z _ hj hI => ?_) (fun z hI => ?_)) (fun b hb => Ok.some ⟨nj_p1 _, yRel_mono hb ?_⟩)
    · exact yRel_mono hr (fun a b _ _ hq => hq.elim id (fun z => by obtain ⟨j, z1, _⟩ := z; omega))
    · obtain ⟨z1, z3⟩ := z
      obtain ⟨hz, hr⟩ := hI
      have hz : z1 = nI j := hz
      subst hz
      dsimp only at hr ⊢
      refine Ok.to eC ?_
      refine Ok.ite (fun w => absurd w (by rw [nj_le (by omega) (by omega)]; omega)) (fun _ => ?_)
      have n1 := yNth_lt lr b2 i (by omega)
      have n2 := yNth_lt lc b4 j (by omega)
      refine Ok.to (c_member lr b2 i (by omega)) ?_
      refine Ok.to (c_member lc b4 j (by omega)) ?_
      refine Ok.to (e_get (by omega) (by omega)) ?_
      rw [hm _ _ n1 n2, nj_add, nj_add]
      refine Ok.to (e_set (by omega) (by omega)) ?_
      refine Ok.some ⟨nj_p1 _, yRel_mono (yRel_up (x := top + i) (y := left + j) hr (by omega) (by omega)) (fun a b _ _ hq => ?_)⟩
      rcases hq with hq | ⟨j', q1, q2, q3⟩
      · exact Or.inl (Or.inl hq)
      · by_cases e : j' = j
        · subst e
          exact Or.inr ⟨q2, q3⟩
        · exact Or.inl (Or.inr ⟨j', by omega, q2, q3⟩)
    · obtain ⟨z1, z3⟩ := z
      obtain ⟨hz, hr⟩ := hI
      have hz : z1 = nI nn := hz
      subst hz
      refine Ok.to eC ?_
      exact Ok.ite (fun _ => Ok.some hr) (fun w => absurd (Int32.le_refl _) w)
    · intro a b _ _ hq
      rcases hq with hq | ⟨i', j, q1, q2, q3, q4⟩
      · exact Or.inl (Or.inl hq)
      · by_cases e : i' = i
        · subst e
          exact Or.inr ⟨j, q2, q3, q4⟩
        · exact Or.inl (Or.inr ⟨i', j, by omega, q2, q3, q4⟩)
  · obtain ⟨z1, z3⟩ := z
    obtain ⟨hz, hr⟩ := hI
    have hz : z1 = nI mm := hz
    subst hz
    refine Ok.to eR ?_
    exact Ok.ite (fun _ => Ok.some hr) (fun w => absurd (Int32.le_refl _) w)
