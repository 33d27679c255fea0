/-! ===== what is asked of the reference, exactly ===== -/
theorem e_start_i {i1 i2 : Int32} (h : 0 < i2.toInt) : fX9_start_i i1 i2 = some (if i1 = 0 then (0, 0) else (1, i2)) := by
  obtain ⟨x, hx, hp⟩ := o_X9_start_i (i1 := i1) (i2 := i2) h
  rw [hx]
  rcases hp with ⟨e, rfl⟩ | ⟨e, rfl⟩
  · rw [if_pos e]
  · rw [if_neg e]
theorem e_start_r {i1 i2 : Int32} (h : 0 < i2.toInt) : fX9_start_r i1 i2 = some (if i1 = 0 then (0, 0) else (1, i2)) := by
  obtain ⟨x, hx, hp⟩ := o_X9_start_r (i1 := i1) (i2 := i2) h
  rw [hx]
  rcases hp with ⟨e, rfl⟩ | ⟨e, rfl⟩
  · rw [if_pos e]
  · rw [if_neg e]
theorem e_refuse_i {i1 i2 : Int32} (h : 0 < i2.toInt) : fX9_refuse_i 0 i1 i2 = some (if i1 = 0 then (0, 0) else (1, i2)) := by
  obtain ⟨x, hx, hp⟩ := o_X9_refuse_i (gth := 0) (i1 := i1) (i2 := i2) rfl h
  rw [hx]
  rcases hp with ⟨e, rfl⟩ | ⟨e, rfl⟩
  · rw [if_pos e]
  · rw [if_neg e]
theorem e_refuse_r {i1 i2 : Int32} (h : 0 < i2.toInt) : fX9_refuse_r 0 i1 i2 = some (if i1 = 0 then (0, 0) else (1, i2)) := by
  obtain ⟨x, hx, hp⟩ := o_X9_refuse_r (gth := 0) (i1 := i1) (i2 := i2) rfl h
  rw [hx]
  rcases hp with ⟨e, rfl⟩ | ⟨e, rfl⟩
  · rw [if_pos e]
  · rw [if_neg e]
def yIn (x : Int32) (a b : Int) : Bool := decide (a ≤ x.toInt ∧ x.toInt ≤ b)
theorem e_isIn {i1 i2 i3 : Int32} : fX9_isIn i1 i2 i3 = some (yb (yIn i1 i2.toInt i3.toInt)) := by
  obtain ⟨x, hx, hp⟩ := o_X9_isIn (i1 := i1) (i2 := i2) (i3 := i3)
  rw [hx]
  unfold yIn
  rcases hp with ⟨rfl, h⟩ | ⟨rfl, h⟩
  · rw [decide_eq_false h]; rfl
  · rw [decide_eq_true h]; rfl
theorem yb_not (b : Bool) : (if yb b = 0 then some (1 : Int32) else some 0) = some (yb !b) := by cases b <;> rfl
def yN (x : Int32) : Nat := if x = 0 then 0 else 1
theorem nj_yb (a : Nat) (x : Int32) : nI a + yb (!decide (x = 0)) = nI (a + yN x) := by
  unfold yN
  by_cases h : x = 0
  · rw [decide_eq_true h, if_pos h]
    exact nj_add a 0
  · rw [decide_eq_false h, if_neg h]
    exact nj_add a 1
def yCount (n k : Nat) (G : Nat → Nat → Int32) : Nat := ySm n (fun i => ySm k (fun j => yN (G i j)))
theorem yN_le (x : Int32) : yN x ≤ 1 := by
  unfold yN
  split <;> omega
theorem yCount_le (n k : Nat) (G : Nat → Nat → Int32) : yCount n k G ≤ n * (k * 1) := ySm_le (fun i _ => ySm_le (fun j _ => yN_le _))
theorem e_count_i {n k : Nat} {G : Nat → Nat → Int32} (hn : n ≤ 9) (hk : k ≤ 9) : fX9_count_i n k G = some (nI (yCount n k G)) := by
  unfold fX9_count_i
  refine bto (wl_eq (fun i => (nI (ySm i (fun i => ySm k (fun j => yN (G i j)))), nI i)) 0 n (b := (nI (yCount n k G), nI n)) rfl (Nat.zero_le _) (by omega) (fun i _ hi => ?_) ?_) rfl
  · refine (if_neg (fun z => ?_)).trans ?_
    · rw [nj_le (by omega) (by omega)] at z
      omega
    refine (if_pos (nj_in hi (by omega))).trans ?_
    refine bto (wl_eq (fun j => (nI (ySm i (fun i => ySm k (fun j => yN (G i j))) + ySm j (fun j => yN (G i j))), nI j)) 0 k (b := (nI (ySm (i + 1) (fun i => ySm k (fun j => yN (G i j)))), nI k)) rfl (Nat.zero_le _) (by omega) (fun j _ hj => ?_) ?_) ?_
    · refine (if_neg (fun z => ?_)).trans ?_
      · rw [nj_le (by omega) (by omega)] at z
        omega
      refine (if_pos (nj_in hj (by omega))).trans ?_
      unfold ylet
      dsimp only
      rw [nj_cl (by omega), nj_cl (by omega)]
      refine bto (e_oneB _) ?_
      rw [nj_yb, nj_p1, Nat.add_assoc]
      rfl
    · exact if_pos (Int32.le_refl _)
    · dsimp only
      rw [nj_p1]
  · exact if_pos (Int32.le_refl _)
theorem e_others {n k : Nat} {G : Nat → Nat → Int32} (hn : n ≤ 9) (hk : k ≤ 9) : fX9_others n k G = some (nI (yCount n k G)) := by
  unfold fX9_others
  refine bto (wl_eq (fun i => (nI (ySm i (fun i => ySm k (fun j => yN (G i j)))), nI i)) 0 n (b := (nI (yCount n k G), nI n)) rfl (Nat.zero_le _) (by omega) (fun i _ hi => ?_) ?_) rfl
  · refine (if_neg (fun z => ?_)).trans ?_
    · rw [nj_le (by omega) (by omega)] at z
      omega
    refine (if_pos (nj_in hi (by omega))).trans ?_
    refine bto (wl_eq (fun j => (nI (ySm i (fun i => ySm k (fun j => yN (G i j))) + ySm j (fun j => yN (G i j))), nI j)) 0 k (b := (nI (ySm (i + 1) (fun i => ySm k (fun j => yN (G i j)))), nI k)) rfl (Nat.zero_le _) (by omega) (fun j _ hj => ?_) ?_) ?_
    · refine (if_neg (fun z => ?_)).trans ?_
      · rw [nj_le (by omega) (by omega)] at z
        omega
      refine (if_pos (nj_in hj (by omega))).trans ?_
      unfold ylet
      dsimp only
      rw [nj_cl (by omega), nj_cl (by omega)]
      rw [yb_iten]
      refine bto rfl ?_
      refine bto (e_one _) ?_
      rw [nj_yb, nj_p1, Nat.add_assoc]
      rfl
    · exact if_pos (Int32.le_refl _)
    · dsimp only
      rw [nj_p1]
  · exact if_pos (Int32.le_refl _)
theorem e_count_r {n k : Nat} {G : Nat → Nat → Int32} (hn : n ≤ 9) (hk : k ≤ 9) : fX9_count_r n k G = some (nI (yCount n k G)) := e_count_i hn hk
theorem yFit {x : Int32} (h : Bo x) : fits .boolean (.int x) = true := by rcases h with rfl | rfl <;> decide
def yTop (n : Nat) (B K : Nat → Nat → Int32) : Nat → Nat → Int32 := fun i => if i < n then B i else K i
theorem yTop_s (n : Nat) (B K : Nat → Nat → Int32) : va_up (yTop n B K) n (B n) = yTop (n + 1) B K := by
  funext a
  unfold va_up yTop
  by_cases h : a = n
  · rw [if_pos h, if_pos (by omega), h]
  · rw [if_neg h]
    exact y_ifc (by omega)
theorem yTop_0 (B K : Nat → Nat → Int32) : yTop 0 B K = K := by
  funext a
  exact if_neg (Nat.not_lt_zero _)
theorem e_test {B K : Nat → Nat → Int32} (hB : BG B) : fX9_test_i B K = some (nI (yCount 5 5 B) - nI (yCount 5 5 K), 0, yTop 5 B K) := by
  unfold fX9_test_i
  refine bto (e_start_i (by decide)) ?_
  refine (if_pos rfl).trans ?_
  refine bto (e_count_i (by decide) (by decide)) ?_
  refine bto (e_count_i (by decide) (by decide)) ?_
  refine bto (wl_eq (fun i => (nI i, yTop i B K, i, 5 * i)) 0 5 (b := (nI 5, yTop 5 B K, 5, 25)) ?_ (by decide) (by decide) (fun i _ hi => ?_) ?_) ?_
  · show (nI 0, K, 0, 0) = (nI 0, yTop 0 B K, 0, 0)
    rw [yTop_0]
  · dsimp only
    refine (if_pos ⟨by omega, by omega⟩).trans ?_
    refine (if_neg (fun z => ?_)).trans ?_
    · rw [li5, nj_le (by omega) (by omega)] at z
      omega
    refine (if_pos (nj_in hi (by omega))).trans ?_
    refine (if_pos (fun j _ => yFit (hB _ _))).trans ?_
    refine (if_pos ⟨by omega, by omega⟩).trans ?_
    refine (if_pos (nj_in hi (by omega))).trans ?_
    rw [nj_cl (by omega), yTop_s, nj_p1, Nat.mul_succ]
  · dsimp only
    exact (if_pos ⟨by omega, by omega⟩).trans (if_pos (show (5 : Int32) ≤ nI 5 by decide))
  · dsimp only
    exact if_pos ⟨by omega, by omega⟩
theorem e_copy {r k c g s : Nat} {G H : Nat → Nat → Int32} (J : yJob r k c g s) : fX8_copy (nI r) (nI k) (nI c) (nI g) (nI s) r k G k c H = some (nI r, nI k, nI c, nI g, nI s, r, k, yTop r G (fun _ _ => 0), k, c, yTop k H (fun _ _ => 0)) := by
  obtain ⟨⟨a1, a2⟩, ⟨a3, a4⟩, ⟨a5, a6⟩, a7, a8⟩ := id J
  have hs01 : nI s = 0 ∨ nI s = 1 := by
    rcases (show s = 0 ∨ s = 1 by omega) with rfl | rfl
    · exact Or.inl rfl
    · exact Or.inr rfl
  have m1 : r * k ≤ 8 * 6 := Nat.mul_le_mul (by omega) (by omega)
  have m2 : k * c ≤ 6 * 8 := Nat.mul_le_mul (by omega) (by omega)
  unfold fX8_copy
  refine bto (show fX8_init = some () from rfl) ?_
  refine (if_pos hs01).trans ?_
  rw [nj_cl (by omega), nj_cl (by omega)]
  refine (if_pos ⟨fun z => by rw [nj_neg (by omega)] at z; exact z, by omega⟩).trans ?_
  refine (if_pos ⟨fun z => by rw [nj_neg (by omega)] at z; exact z, by omega⟩).trans ?_
  refine bto (wl_eq (fun i => (nI i, i, yTop i G (fun _ _ => 0), 3 + i, 25 + i * k)) 0 r (b := (nI r, r, yTop r G (fun _ _ => 0), 3 + r, 25 + r * k)) ?_ (Nat.zero_le _) (by omega) (fun i _ hi => ?_) ?_) ?_
  · show (nI 0, 0, fun _ _ => 0, 3, 25) = (nI 0, 0, yTop 0 G (fun _ _ => 0), 3, 25 + 0 * k)
    rw [yTop_0, Nat.zero_mul]
  · have m3 : i * k ≤ 8 * 6 := Nat.mul_le_mul (by omega) (by omega)
    have m4 : (i + 1) * k ≤ 8 * 6 := Nat.mul_le_mul (by omega) (by omega)
    rw [Nat.succ_mul] at m4
    dsimp only
    refine (if_pos ⟨by omega, by omega⟩).trans ?_
    refine (if_neg (fun z => ?_)).trans ?_
    · rw [nj_le (by omega) (by omega)] at z
      omega
    refine (if_pos (nj_in hi (by omega))).trans ?_
    refine (if_pos ⟨by omega, by omega⟩).trans ?_
    refine (if_pos (nj_in hi (by omega))).trans ?_
    rw [nj_cl (by omega)]
    refine (if_pos rfl).trans ?_
    rw [yTop_s, nj_p1, Nat.succ_mul, ← Nat.add_assoc, ← Nat.add_assoc]
  · dsimp only
    exact (if_pos ⟨by omega, by omega⟩).trans (if_pos (Int32.le_refl _))
  dsimp only
  refine (if_pos ⟨by omega, by omega⟩).trans ?_
  refine bto (wl_eq (fun i => (nI i, i, yTop i H (fun _ _ => 0), 3 + r + i, 25 + r * k + i * c)) 0 k (b := (nI k, k, yTop k H (fun _ _ => 0), 3 + r + k, 25 + r * k + k * c)) ?_ (Nat.zero_le _) (by omega) (fun i _ hi => ?_) ?_) ?_
  · show (nI 0, 0, fun _ _ => 0, 3 + r, 25 + r * k) = (nI 0, 0, yTop 0 H (fun _ _ => 0), 3 + r, 25 + r * k + 0 * c)
    rw [yTop_0, Nat.zero_mul]
    rfl
  · have m3 : i * c ≤ 6 * 8 := Nat.mul_le_mul (by omega) (by omega)
    have m4 : (i + 1) * c ≤ 6 * 8 := Nat.mul_le_mul (by omega) (by omega)
    rw [Nat.succ_mul] at m4
    dsimp only
    refine (if_pos ⟨by omega, by omega⟩).trans ?_
    refine (if_neg (fun z => ?_)).trans ?_
    · rw [nj_le (by omega) (by omega)] at z
      omega
    refine (if_pos (nj_in hi (by omega))).trans ?_
    refine (if_pos ⟨by omega, by omega⟩).trans ?_
    refine (if_pos (nj_in hi (by omega))).trans ?_
    rw [nj_cl (by omega)]
    refine (if_pos rfl).trans ?_
    rw [yTop_s, nj_p1, Nat.succ_mul, ← Nat.add_assoc, ← Nat.add_assoc]
  · dsimp only
    exact (if_pos ⟨by omega, by omega⟩).trans (if_pos (Int32.le_refl _))
  dsimp only
  refine (if_pos ⟨by omega, by omega⟩).trans ?_
  exact (if_pos rfl).trans (if_pos rfl)
/-- what is told of the best -/
def yBT (R C st : Nat) (z : Nat × Nat × Nat) (i1 : Int32) : Int32 := if z.2.1 = 0 then -1 else if i1 = 0 then nI (yBeats R C (yPop z.2.1) (yPop z.2.2) st) else if i1 = 1 then nI z.2.1 else if i1 = 2 then nI z.2.2 else if i1 = 3 then nI (yTl R (yPop z.2.1) * yTl C (yPop z.2.2)) else nI (st * (R * yTl C (yPop z.2.2) + C * yTl R (yPop z.2.1)))
def yJst (r k c g : Nat) (G H : Nat → Nat → Int32) : Nat := ySt k (yIdle g r G c H)
def yJb (r k c g s : Nat) (G H K : Nat → Nat → Int32) : Nat × Nat × Nat := yBest K (r + s) (c + s) (yJst r k c g G H)
theorem yJst_of {r k c g s : Nat} (G H : Nat → Nat → Int32) (J : yJob r k c g s) : 1 ≤ yJst r k c g G H ∧ yJst r k c g G H ≤ k := by
  obtain ⟨⟨a1, a2⟩, ⟨a3, a4⟩, ⟨a5, a6⟩, a7, a8⟩ := id J
  exact ySt_of _ (by omega) a3
theorem e_stepsJ {r k c g s : Nat} {G H : Nat → Nat → Int32} (J : yJob r k c g s) : fX8_steps (nI k) (nI g) r k G k c H = some (nI (yJst r k c g G H)) := by
  obtain ⟨⟨a1, a2⟩, ⟨a3, a4⟩, ⟨a5, a6⟩, a7, a8⟩ := id J
  exact e_steps a7 (by omega) (by omega) a3 a4 (Nat.le_refl _) (Nat.le_refl _)
theorem e_bestJ {r k c g s : Nat} {G H K : Nat → Nat → Int32} (J : yJob r k c g s) : Ok (fX9_bestLayout_i (nI r) (nI k) (nI c) (nI g) (nI s) r k G k c H K) (yBR (yJb r k c g s G H K)) := by
  obtain ⟨⟨a1, a2⟩, ⟨a3, a4⟩, ⟨a5, a6⟩, a7, a8⟩ := id J
  exact e_bestLayout_i a2 a6 a3 a4 a7 a8 (by omega) (by omega) (Nat.le_refl _) (Nat.le_refl _)
theorem cl0' : ∀ n : Nat, ¬ ((0 : Int32) < 0 ∨ n + 1 ≤ (0 : Int32).toNatClampNeg) := fun n z => by
  rw [cl0] at z
  rcases z with z | z
  · exact absurd z (by decide)
  · omega
theorem e_bestTold_i {r k c g s : Nat} {G H K : Nat → Nat → Int32} {i1 : Int32} (J : yJob r k c g s) : fX9_bestTold_i (nI r) (nI k) (nI c) (nI g) (nI s) r k G k c H K i1 = some (yBT (r + s) (c + s) (yJst r k c g G H) (yJb r k c g s G H K) i1) := by
  obtain ⟨⟨a1, a2⟩, ⟨a3, a4⟩, ⟨a5, a6⟩, a7, a8⟩ := id J
  have st := yJst_of G H J
  unfold fX9_bestTold_i
  obtain ⟨x, hx, hp⟩ := e_bestJ (G := G) (H := H) (K := K) J
  refine bto hx ?_
  obtain ⟨xf, xn⟩ := x
  unfold yBT
  generalize yJb r k c g s G H K = z at hp ⊢
  rcases hp with ⟨h1, h2⟩ | ⟨h1, h2, h3, h4, h5, h6, h7⟩
  · have h2 : xn = 0 := h2
    rw [if_pos h1, h2]
    exact if_pos rfl
  · have h5 : xn = 2 := h5
    have k6 : xf 0 = nI z.2.1 := h6
    have k7 : xf 1 = nI z.2.2 := h7
    have g0 : ¬ ((0 : Int32) < 0 ∨ 2 ≤ (0 : Int32).toNatClampNeg) := by decide
    have g1 : ¬ ((1 : Int32) < 0 ∨ 2 ≤ (1 : Int32).toNatClampNeg) := by decide
    have p1 := yPop_pos z.2.1 h2 h1
    have p2 := yPop_pos z.2.2 h4 h3
    have q1 := yPop_le z.2.1 h2
    have q2 := yPop_le z.2.2 h4
    subst h5
    rw [if_neg (show ¬ z.2.1 = 0 by omega)]
    dsimp only
    rw [cl0, cl1, k6, k7]
    refine (if_neg (show ¬ nI 2 = 0 by decide)).trans ?_
    refine (if_pos (show ¬ ((0 : Int32) < 0 ∨ 2 ≤ 0) by decide)).trans ?_
    refine bto (e_pop _ (by omega)) ?_
    refine (if_pos (show ¬ ((1 : Int32) < 0 ∨ 2 ≤ 1) by decide)).trans ?_
    refine bto (e_pop _ (by omega)) ?_
    refine bto (e_rows a8) ?_
    refine bto (e_tiles (by omega) (by omega) p1) ?_
    refine bto (e_columns a8) ?_
    refine bto (e_tiles (by omega) (by omega) p2) ?_
    by_cases c0 : i1 = 0
    · rw [if_pos c0, if_pos c0]
      refine (if_pos (show ¬ ((0 : Int32) < 0 ∨ 2 ≤ 0) by decide)).trans ?_
      refine (if_pos (show ¬ ((1 : Int32) < 0 ∨ 2 ≤ 1) by decide)).trans ?_
      refine bto (e_stepsJ J) ?_
      refine bto (e_beatsOf a2 a6 a8 h1 h2 h3 h4 st.1 (by omega)) ?_
      rfl
    rw [if_neg c0, if_neg c0]
    by_cases c1 : i1 = 1
    · rw [if_pos c1, if_pos c1]
      exact if_pos (show ¬ ((0 : Int32) < 0 ∨ 2 ≤ 0) by decide)
    rw [if_neg c1, if_neg c1]
    by_cases c2 : i1 = 2
    · rw [if_pos c2, if_pos c2]
      exact if_pos (show ¬ ((1 : Int32) < 0 ∨ 2 ≤ 1) by decide)
    rw [if_neg c2, if_neg c2]
    by_cases c3 : i1 = 3
    · rw [if_pos c3, if_pos c3, nj_mul]
    rw [if_neg c3, if_neg c3]
    refine bto (e_stepsJ J) ?_
    refine bto (e_rows a8) ?_
    refine bto (e_columns a8) ?_
    rw [nj_mul, nj_mul, nj_add, nj_mul]
theorem e_bestTold_r {r k c g s : Nat} {G H K : Nat → Nat → Int32} {i1 : Int32} (J : yJob r k c g s) : fX9_bestTold_r (nI r) (nI k) (nI c) (nI g) (nI s) r k G k c H K i1 = some (yBT (r + s) (c + s) (yJst r k c g G H) (yJb r k c g s G H K) i1) := e_bestTold_i J
theorem e_best_i {r k c g s : Nat} {G H K : Nat → Nat → Int32} {i1 : Int32} (J : yJob r k c g s) : fX9_best_i (nI r) (nI k) (nI c) (nI g) (nI s) r k G k c H K i1 = some (if yIn i1 0 4 = true then (yBT (r + s) (c + s) (yJst r k c g G H) (yJb r k c g s G H K) i1, 0) else (0, 1)) := by
  unfold fX9_best_i
  refine bto e_isIn ?_
  rw [yb_not]
  refine bto rfl ?_
  refine bto (e_start_i (by decide)) ?_
  have e0 : Int32.toInt 0 = 0 := by decide
  have e4 : Int32.toInt 4 = 4 := by decide
  rw [e0, e4]
  cases yIn i1 0 4
  · rfl
  · refine (if_pos rfl).trans ?_
    refine bto (e_bestTold_i J) ?_
    rfl
def ySvi (r k c g s : Nat) (G H K : Nat → Nat → Int32) : Int32 := if (yJb r k c g s G H K).2.1 = 0 then 0 else yBT (r + s) (c + s) (yJst r k c g G H) (yJb r k c g s G H K) 3 * nI (k - yJst r k c g G H)
theorem e_savedNow_i {r k c g s : Nat} {G H K : Nat → Nat → Int32} (J : yJob r k c g s) : fX9_savedNow_i (nI r) (nI k) (nI c) (nI g) (nI s) r k G k c H K = some (ySvi r k c g s G H K) := by
  obtain ⟨⟨a1, a2⟩, ⟨a3, a4⟩, ⟨a5, a6⟩, a7, a8⟩ := id J
  have st := yJst_of G H J
  unfold fX9_savedNow_i ySvi
  refine bto (e_bestTold_i J) ?_
  by_cases h : (yJb r k c g s G H K).2.1 = 0
  · rw [if_pos h]
    refine if_pos ?_
    unfold yBT
    rw [if_pos h]
  · rw [if_neg h]
    refine (if_neg (fun z => ?_)).trans ?_
    · obtain ⟨x, hx, hp⟩ := e_bestJ (G := G) (H := H) (K := K) J
      rcases hp with ⟨h1, h2⟩ | ⟨h1, h2, h3, h4, h5, h6, h7⟩
      · exact h h1
      · have p1 := yPop_pos _ h2 h1
        have p2 := yPop_pos _ h4 h3
        have t1 := yTl_le (a := r + s) p1
        have t2 := yTl_le (a := c + s) p2
        have m : yTl (r + s) (yPop (yJb r k c g s G H K).2.1) * yTl (c + s) (yPop (yJb r k c g s G H K).2.2) ≤ 9 * 9 := Nat.mul_le_mul (by omega) (by omega)
        unfold yBT at z
        rw [if_neg h, if_neg (by decide), if_neg (by decide), if_neg (by decide), if_pos rfl, nj_m1 (by omega)] at z
        exact z
    refine bto (e_bestTold_i J) ?_
    refine bto (e_stepsJ J) ?_
    rw [nj_sub (by omega)]
theorem e_saved_i {r k c g s : Nat} {G H K : Nat → Nat → Int32} (J : yJob r k c g s) : fX9_saved_i (nI r) (nI k) (nI c) (nI g) (nI s) r k G k c H K = some (ySvi r k c g s G H K, 0) := by
  unfold fX9_saved_i
  exact bto (e_savedNow_i J) rfl
theorem e_beats_i {r k c g s : Nat} {G H K : Nat → Nat → Int32} {i1 i2 : Int32} (J : yJob r k c g s) : fX9_beats_i (nI r) (nI k) (nI c) (nI g) (nI s) r k G k c H K i1 i2 = some (if yIn i1 1 31 = true ∧ yIn i2 1 31 = true then (if yCross K i1.toNatClampNeg i2.toNatClampNeg = true then -1 else nI (yBeats (r + s) (c + s) (yPop i1.toNatClampNeg) (yPop i2.toNatClampNeg) (yJst r k c g G H)), 0) else (0, 1)) := by
  obtain ⟨⟨a1, a2⟩, ⟨a3, a4⟩, ⟨a5, a6⟩, a7, a8⟩ := id J
  have st := yJst_of G H J
  have e0 : Int32.toInt 1 = 1 := by decide
  have e4 : Int32.toInt 31 = 31 := by decide
  unfold fX9_beats_i
  refine bto e_isIn ?_
  rw [e0, e4]
  have T : (((if yb (yIn i1 1 31) = 0 then some 1 else ((fX9_isIn i2 1 31).bind fun x_32 => (if x_32 = 0 then some 1 else some 0))) : Option (Int32))) = some (yb !(yIn i1 1 31 && yIn i2 1 31)) := by
    cases yIn i1 1 31
    · rfl
    · refine (if_neg (by decide)).trans ?_
      refine bto e_isIn ?_
      rw [e0, e4, yb_not]
      rfl
  refine bto T ?_
  refine bto (e_start_i (by decide)) ?_
  cases h1 : yIn i1 1 31
  · rfl
  cases h2 : yIn i2 1 31
  · rfl
  have h1 := of_decide_eq_true h1
  have h2 := of_decide_eq_true h2
  rw [if_pos (show true = true ∧ true = true from ⟨rfl, rfl⟩)]
  refine (if_pos rfl).trans ?_
  have u1 := nj_to (x := i1) (by omega)
  have u2 := nj_to (x := i2) (by omega)
  have w1 : i1.toInt.toNat < 32 := by omega
  have w2 : i2.toInt.toNat < 32 := by omega
  have v1 : 1 ≤ i1.toInt.toNat := by omega
  have v2 : 1 ≤ i2.toInt.toNat := by omega
  clear h1 h2 T
  generalize i1.toInt.toNat = m1 at u1 w1 v1
  generalize i2.toInt.toNat = m2 at u2 w2 v2
  subst u1
  subst u2
  rw [nj_cl (by omega), nj_cl (by omega)]
  refine bto (e_crosses_i w1 w2) ?_
  cases yCross K m1 m2
  · refine (if_pos (by decide)).trans ?_
    refine bto (e_stepsJ J) ?_
    refine bto (e_beatsOf a2 a6 a8 v1 w1 v2 w2 st.1 (by omega)) ?_
    rfl
  · rfl
theorem e_plain_i {r k c g s : Nat} {G H : Nat → Nat → Int32} {i1 i2 : Int32} (J : yJob r k c g s) : fX9_plain_i (nI r) (nI k) (nI c) (nI g) (nI s) r k G k c H i1 i2 = some (if yIn i1 0 (r + s - 1) = true ∧ yIn i2 0 (c + s - 1) = true then (yPlain r k c g r G c H i1.toNatClampNeg i2.toNatClampNeg, 0) else (0, 1)) := by
  obtain ⟨⟨a1, a2⟩, ⟨a3, a4⟩, ⟨a5, a6⟩, a7, a8⟩ := id J
  have e0 : Int32.toInt 0 = 0 := by decide
  have l1 : Int32.toInt 1 = 1 := by decide
  have f1 : (nI (r + s) - 1).toInt = (r : Int) + s - 1 := by
    rw [li1, nj_sub (by omega), yi_nI (by omega)]
    omega
  have f2 : (nI (c + s) - 1).toInt = (c : Int) + s - 1 := by
    rw [li1, nj_sub (by omega), yi_nI (by omega)]
    omega
  unfold fX9_plain_i
  refine bto (e_rows a8) ?_
  refine bto e_isIn ?_
  rw [e0, f1]
  have T : (((if yb (yIn i1 0 (r + s - 1)) = 0 then some 1 else ((fX8_columns (nI c) (nI s)).bind fun x_31 => ((fX9_isIn i2 0 (x_31 - 1)).bind fun x_35 => (if x_35 = 0 then some 1 else some 0)))) : Option (Int32))) = some (yb !(yIn i1 0 (r + s - 1) && yIn i2 0 (c + s - 1))) := by
    cases yIn i1 0 (r + s - 1)
    · rfl
    · refine (if_neg (by decide)).trans ?_
      refine bto (e_columns a8) ?_
      refine bto e_isIn ?_
      rw [e0, f2, yb_not]
      rfl
  refine bto T ?_
  refine bto (e_start_i (by decide)) ?_
  cases h1 : yIn i1 0 (r + s - 1)
  · rfl
  cases h2 : yIn i2 0 (c + s - 1)
  · rfl
  have h1 := of_decide_eq_true h1
  have h2 := of_decide_eq_true h2
  rw [if_pos (show true = true ∧ true = true from ⟨rfl, rfl⟩)]
  refine (if_pos rfl).trans ?_
  have u1 := nj_to (x := i1) (by omega)
  have u2 := nj_to (x := i2) (by omega)
  have w1 : i1.toInt.toNat < r + s := by omega
  have w2 : i2.toInt.toNat < c + s := by omega
  clear h1 h2 T
  generalize i1.toInt.toNat = m1 at u1 w1
  generalize i2.toInt.toNat = m2 at u2 w2
  subst u1
  subst u2
  rw [nj_cl (by omega), nj_cl (by omega)]
  refine bto (e_plain a7 (by omega) (by omega) (by omega) (by omega) a4 (Nat.le_refl _) (Nat.le_refl _) (by omega) (by omega) (by omega) (by omega)) ?_
  rfl
theorem e_best_r {r k c g s : Nat} {G H K : Nat → Nat → Int32} {i1 : Int32} (J : yJob r k c g s) : fX9_best_r (nI r) (nI k) (nI c) (nI g) (nI s) r k G k c H K i1 = some (if yIn i1 0 4 = true then (yBT (r + s) (c + s) (yJst r k c g G H) (yJb r k c g s G H K) i1, 0) else (0, 1)) := by
  unfold fX9_best_r
  refine bto e_isIn ?_
  rw [yb_not]
  refine bto rfl ?_
  refine bto (e_start_r (by decide)) ?_
  have e0 : Int32.toInt 0 = 0 := by decide
  have e4 : Int32.toInt 4 = 4 := by decide
  rw [e0, e4]
  cases yIn i1 0 4
  · rfl
  · refine (if_pos rfl).trans ?_
    refine bto (e_bestTold_r J) ?_
    rfl
def ySvr (r k c g s : Nat) (G H K : Nat → Nat → Int32) : Int32 := if (yJb r k c g s G H K).2.1 = 0 then 0 else yBT (r + s) (c + s) (yJst r k c g G H) (yJb r k c g s G H K) 3 * nI (k - yJst r k c g G H)
theorem e_savedNow_r {r k c g s : Nat} {G H K : Nat → Nat → Int32} (J : yJob r k c g s) : fX9_savedNow_r (nI r) (nI k) (nI c) (nI g) (nI s) r k G k c H K = some (ySvr r k c g s G H K) := by
  obtain ⟨⟨a1, a2⟩, ⟨a3, a4⟩, ⟨a5, a6⟩, a7, a8⟩ := id J
  have st := yJst_of G H J
  unfold fX9_savedNow_r ySvr
  refine bto (e_bestTold_r J) ?_
  by_cases h : (yJb r k c g s G H K).2.1 = 0
  · rw [if_pos h]
    refine if_pos ?_
    unfold yBT
    rw [if_pos h]
  · rw [if_neg h]
    refine (if_neg (fun z => ?_)).trans ?_
    · obtain ⟨x, hx, hp⟩ := e_bestJ (G := G) (H := H) (K := K) J
      rcases hp with ⟨h1, h2⟩ | ⟨h1, h2, h3, h4, h5, h6, h7⟩
      · exact h h1
      · have p1 := yPop_pos _ h2 h1
        have p2 := yPop_pos _ h4 h3
        have t1 := yTl_le (a := r + s) p1
        have t2 := yTl_le (a := c + s) p2
        have m : yTl (r + s) (yPop (yJb r k c g s G H K).2.1) * yTl (c + s) (yPop (yJb r k c g s G H K).2.2) ≤ 9 * 9 := Nat.mul_le_mul (by omega) (by omega)
        unfold yBT at z
        rw [if_neg h, if_neg (by decide), if_neg (by decide), if_neg (by decide), if_pos rfl, nj_m1 (by omega)] at z
        exact z
    refine bto (e_bestTold_r J) ?_
    refine bto (e_stepsJ J) ?_
    rw [nj_sub (by omega)]
theorem e_saved_r {r k c g s : Nat} {G H K : Nat → Nat → Int32} (J : yJob r k c g s) : fX9_saved_r (nI r) (nI k) (nI c) (nI g) (nI s) r k G k c H K = some (ySvr r k c g s G H K, 0) := by
  unfold fX9_saved_r
  exact bto (e_savedNow_r J) rfl
theorem e_beats_r {r k c g s : Nat} {G H K : Nat → Nat → Int32} {i1 i2 : Int32} (J : yJob r k c g s) : fX9_beats_r (nI r) (nI k) (nI c) (nI g) (nI s) r k G k c H K i1 i2 = some (if yIn i1 1 31 = true ∧ yIn i2 1 31 = true then (if yCross K i1.toNatClampNeg i2.toNatClampNeg = true then -1 else nI (yBeats (r + s) (c + s) (yPop i1.toNatClampNeg) (yPop i2.toNatClampNeg) (yJst r k c g G H)), 0) else (0, 1)) := by
  obtain ⟨⟨a1, a2⟩, ⟨a3, a4⟩, ⟨a5, a6⟩, a7, a8⟩ := id J
  have st := yJst_of G H J
  have e0 : Int32.toInt 1 = 1 := by decide
  have e4 : Int32.toInt 31 = 31 := by decide
  unfold fX9_beats_r
  refine bto e_isIn ?_
  rw [e0, e4]
  have T : (((if yb (yIn i1 1 31) = 0 then some 1 else ((fX9_isIn i2 1 31).bind fun x_32 => (if x_32 = 0 then some 1 else some 0))) : Option (Int32))) = some (yb !(yIn i1 1 31 && yIn i2 1 31)) := by
    cases yIn i1 1 31
    · rfl
    · refine (if_neg (by decide)).trans ?_
      refine bto e_isIn ?_
      rw [e0, e4, yb_not]
      rfl
  refine bto T ?_
  refine bto (e_start_r (by decide)) ?_
  cases h1 : yIn i1 1 31
  · rfl
  cases h2 : yIn i2 1 31
  · rfl
  have h1 := of_decide_eq_true h1
  have h2 := of_decide_eq_true h2
  rw [if_pos (show true = true ∧ true = true from ⟨rfl, rfl⟩)]
  refine (if_pos rfl).trans ?_
  have u1 := nj_to (x := i1) (by omega)
  have u2 := nj_to (x := i2) (by omega)
  have w1 : i1.toInt.toNat < 32 := by omega
  have w2 : i2.toInt.toNat < 32 := by omega
  have v1 : 1 ≤ i1.toInt.toNat := by omega
  have v2 : 1 ≤ i2.toInt.toNat := by omega
  clear h1 h2 T
  generalize i1.toInt.toNat = m1 at u1 w1 v1
  generalize i2.toInt.toNat = m2 at u2 w2 v2
  subst u1
  subst u2
  rw [nj_cl (by omega), nj_cl (by omega)]
  refine bto (e_crosses_r w1 w2) ?_
  cases yCross K m1 m2
  · refine (if_pos (by decide)).trans ?_
    refine bto (e_stepsJ J) ?_
    refine bto (e_beatsOf a2 a6 a8 v1 w1 v2 w2 st.1 (by omega)) ?_
    rfl
  · rfl
theorem e_plain_r {r k c g s : Nat} {G H : Nat → Nat → Int32} {i1 i2 : Int32} (J : yJob r k c g s) : fX9_plain_r (nI r) (nI k) (nI c) (nI g) (nI s) r k G k c H i1 i2 = some (if yIn i1 0 (r + s - 1) = true ∧ yIn i2 0 (c + s - 1) = true then (yPlain r k c g r G c H i1.toNatClampNeg i2.toNatClampNeg, 0) else (0, 1)) := by
  obtain ⟨⟨a1, a2⟩, ⟨a3, a4⟩, ⟨a5, a6⟩, a7, a8⟩ := id J
  have e0 : Int32.toInt 0 = 0 := by decide
  have l1 : Int32.toInt 1 = 1 := by decide
  have f1 : (nI (r + s) - 1).toInt = (r : Int) + s - 1 := by
    rw [li1, nj_sub (by omega), yi_nI (by omega)]
    omega
  have f2 : (nI (c + s) - 1).toInt = (c : Int) + s - 1 := by
    rw [li1, nj_sub (by omega), yi_nI (by omega)]
    omega
  unfold fX9_plain_r
  refine bto (e_rows a8) ?_
  refine bto e_isIn ?_
  rw [e0, f1]
  have T : (((if yb (yIn i1 0 (r + s - 1)) = 0 then some 1 else ((fX8_columns (nI c) (nI s)).bind fun x_31 => ((fX9_isIn i2 0 (x_31 - 1)).bind fun x_35 => (if x_35 = 0 then some 1 else some 0)))) : Option (Int32))) = some (yb !(yIn i1 0 (r + s - 1) && yIn i2 0 (c + s - 1))) := by
    cases yIn i1 0 (r + s - 1)
    · rfl
    · refine (if_neg (by decide)).trans ?_
      refine bto (e_columns a8) ?_
      refine bto e_isIn ?_
      rw [e0, f2, yb_not]
      rfl
  refine bto T ?_
  refine bto (e_start_r (by decide)) ?_
  cases h1 : yIn i1 0 (r + s - 1)
  · rfl
  cases h2 : yIn i2 0 (c + s - 1)
  · rfl
  have h1 := of_decide_eq_true h1
  have h2 := of_decide_eq_true h2
  rw [if_pos (show true = true ∧ true = true from ⟨rfl, rfl⟩)]
  refine (if_pos rfl).trans ?_
  have u1 := nj_to (x := i1) (by omega)
  have u2 := nj_to (x := i2) (by omega)
  have w1 : i1.toInt.toNat < r + s := by omega
  have w2 : i2.toInt.toNat < c + s := by omega
  clear h1 h2 T
  generalize i1.toInt.toNat = m1 at u1 w1
  generalize i2.toInt.toNat = m2 at u2 w2
  subst u1
  subst u2
  rw [nj_cl (by omega), nj_cl (by omega)]
  refine bto (e_plain a7 (by omega) (by omega) (by omega) (by omega) a4 (Nat.le_refl _) (Nat.le_refl _) (by omega) (by omega) (by omega) (by omega)) ?_
  rfl
