/-! ===== what is told in the class reckons as in the reference ===== -/
theorem c_rows {r s : Nat} (h : s ≤ 1) : fX1_rowsInAll (nI r) (nI s) = some (nI (r + s)) := by
  unfold fX1_rowsInAll
  rcases (show s = 0 ∨ s = 1 by omega) with rfl | rfl
  · rfl
  · refine (if_neg (show ¬ nI 1 = 0 by decide)).trans ?_
    rw [nj_p1]
theorem c_columns {r s : Nat} (h : s ≤ 1) : fX1_columnsInAll (nI r) (nI s) = some (nI (r + s)) := c_rows h
theorem ySum_ext {n : Nat} {f g : Nat → Int32} (h : ∀ i, i < n → f i = g i) : ySum n f = ySum n g := by
  induction n with
  | zero => rfl
  | succ n ih =>
    show ySum n f + f n = ySum n g + g n
    rw [ih (fun i hi => h i (by omega)), h n (by omega)]
/-- a table of the class holds a grid's first rows and columns -/
def yTq (a b : Nat) (f : Nat → Int32) (G : Nat → Nat → Int32) : Prop := ∀ i j, i < a → j < b → f (i * 9 + j) = G i j
theorem yTG.q {f : Nat → Int32} {G : Nat → Nat → Int32} {a b : Nat} (h : yTG f G) (ha : a ≤ 9) (hb : b ≤ 9) : yTq a b f G := fun i j hi hj => h i j (by omega) (by omega)
theorem c_left {r k i t : Nat} {f : Nat → Int32} {G : Nat → Nat → Int32} (hf : yTq r k f G) (hr : r ≤ 9) (hk : k ≤ 9) (ht : t < k) (hi : i < 100) : fX1_leftOperand (nI r) f (nI i) (nI t) = some (yA r r G i t) := by
  unfold fX1_leftOperand yA
  by_cases c : r ≤ i
  · rw [if_pos ((nj_le (by omega) (by omega)).mpr c), if_neg (Nat.not_lt.mpr c)]
    refine bto (wl_eq (fun m => (ySum m (fun i => G i t), nI m)) 0 r (b := (ySum r (fun i => G i t), nI r)) rfl (Nat.zero_le _) (by omega) (fun m _ hm => ?_) ?_) rfl
    · refine (if_neg (fun z => by rw [nj_le (by omega) (by omega)] at z; omega)).trans ?_
      refine bto (e_get (by omega) (by omega)) ?_
      rw [hf m t (by omega) ht, nj_p1]
      rfl
    · exact if_pos (Int32.le_refl _)
  · refine (if_neg (fun z => c ((nj_le (by omega) (by omega)).mp z))).trans ?_
    rw [if_pos (show i < r by omega)]
    refine bto (e_get (by omega) (by omega)) ?_
    rw [hf i t (by omega) ht]
theorem c_top {r k i t : Nat} {f : Nat → Int32} {G : Nat → Nat → Int32} (hf : yTq k r f G) (hr : r ≤ 9) (hk : k ≤ 9) (ht : t < k) (hi : i < 100) : fX1_topOperand (nI r) f (nI t) (nI i) = some (yBt r r G t i) := by
  unfold fX1_topOperand yBt
  by_cases c : r ≤ i
  · rw [if_pos ((nj_le (by omega) (by omega)).mpr c), if_neg (Nat.not_lt.mpr c)]
    refine bto (wl_eq (fun m => (ySum m (fun i => G t i), nI m)) 0 r (b := (ySum r (fun i => G t i), nI r)) rfl (Nat.zero_le _) (by omega) (fun m _ hm => ?_) ?_) rfl
    · refine (if_neg (fun z => by rw [nj_le (by omega) (by omega)] at z; omega)).trans ?_
      refine bto (e_get (by omega) (by omega)) ?_
      rw [hf t m ht (by omega), nj_p1]
      rfl
    · exact if_pos (Int32.le_refl _)
  · refine (if_neg (fun z => c ((nj_le (by omega) (by omega)).mp z))).trans ?_
    rw [if_pos (show i < r by omega)]
    refine bto (e_get (by omega) (by omega)) ?_
    rw [hf t i ht (by omega)]
theorem c_first {g : Nat} (hg : g ≤ 2) : fX1_firstSum (nI g) = some (yFirst g) := by
  rcases (show g = 0 ∨ g = 1 ∨ g = 2 by omega) with rfl | rfl | rfl <;> rfl
theorem c_bring {r k c g i j t : Nat} {f h : Nat → Int32} {G H : Nat → Nat → Int32} {x : Int32} (hf : yTq r k f G) (hh : yTq k c h H) (hr : r ≤ 9) (hc : c ≤ 9) (hg : g ≤ 2) (hk : k ≤ 9) (ht : t < k) (hi : i < 100) (hj : j < 100) : fX1_bringIn (nI r) (nI c) (nI g) f h x (nI i) (nI t) (nI j) = some (yWith g x (yA r r G i t) (yBt c c H t j)) := by
  unfold fX1_bringIn
  refine bto (c_left hf hr hk ht hi) ?_
  refine bto (c_top hh hc hk ht hj) ?_
  rcases (show g = 0 ∨ g = 1 ∨ g = 2 by omega) with rfl | rfl | rfl <;> rfl
theorem c_plainOf {r k c g i j : Nat} {f h : Nat → Int32} {G H : Nat → Nat → Int32} (hf : yTq r k f G) (hh : yTq k c h H) (hr : r ≤ 9) (hc : c ≤ 9) (hg : g ≤ 2) (hk : k ≤ 9) (hi : i < 100) (hj : j < 100) : fX1_plainOf (nI r) (nI k) (nI c) (nI g) f h (nI i) (nI j) = some (yPlain r k c g r G c H i j) := by
  unfold fX1_plainOf yPlain
  refine bto (c_first hg) ?_
  refine bto (wl_eq (fun m => (yFold m (fun t x => yWith g x (yA r r G i t) (yBt c c H t j)) (yFirst g), nI m)) 0 k (b := (yFold k (fun t x => yWith g x (yA r r G i t) (yBt c c H t j)) (yFirst g), nI k)) rfl (Nat.zero_le _) (by omega) (fun m _ hm => ?_) ?_) rfl
  · refine (if_neg (fun z => by rw [nj_le (by omega) (by omega)] at z; omega)).trans ?_
    refine bto (c_bring hf hh hr hc hg hk hm hi hj) ?_
    rw [nj_p1]
    rfl
  · exact if_pos (Int32.le_refl _)
theorem c_plain {r k c g s : Nat} {f h : Nat → Int32} {G H : Nat → Nat → Int32} {i1 i2 : Int32} (J : yJob r k c g s) (hf : yTq r k f G) (hh : yTq k c h H) : fX6_plain (nI r) (nI k) (nI c) (nI g) (nI s) f h i1 i2 = some (if yIn i1 0 (r + s - 1) = true ∧ yIn i2 0 (c + s - 1) = true then .inr (yPlain r k c g r G c H i1.toNatClampNeg i2.toNatClampNeg) else .inl 1) := by
  obtain ⟨⟨a1, a2⟩, ⟨a3, a4⟩, ⟨a5, a6⟩, a7, a8⟩ := id J
  have fr := yi_nI (n := r + s) (by omega)
  have fc := yi_nI (n := c + s) (by omega)
  unfold fX6_plain
  by_cases c1 : i1 < 0
  · rw [if_pos c1]
    rw [yi_lt, yI0] at c1
    rw [show yIn i1 0 (r + s - 1) = false from decide_eq_false (by omega), if_neg (fun z => absurd z.1 (by decide))]
  rw [if_neg c1]
  rw [yi_lt, yI0] at c1
  refine bto (c_rows a8) ?_
  by_cases c2 : nI (r + s) ≤ i1
  · refine (if_pos c2).trans ?_
    rw [yi_le, fr] at c2
    rw [show yIn i1 0 (r + s - 1) = false from decide_eq_false (by omega), if_neg (fun z => absurd z.1 (by decide))]
  refine (if_neg c2).trans ?_
  rw [yi_le, fr] at c2
  rw [show yIn i1 0 (r + s - 1) = true from decide_eq_true (by omega)]
  by_cases c3 : i2 < 0
  · refine (if_pos c3).trans ?_
    rw [yi_lt, yI0] at c3
    rw [show yIn i2 0 (c + s - 1) = false from decide_eq_false (by omega), if_neg (fun z => absurd z.2 (by decide))]
  refine (if_neg c3).trans ?_
  rw [yi_lt, yI0] at c3
  refine bto (c_columns a8) ?_
  by_cases c4 : i2 < nI (c + s)
  · refine (if_pos c4).trans ?_
    rw [yi_lt, fc] at c4
    rw [show yIn i2 0 (c + s - 1) = true from decide_eq_true (by omega), if_pos (show true = true ∧ true = true from ⟨rfl, rfl⟩)]
    have u1 := nj_to (x := i1) (by omega)
    have u2 := nj_to (x := i2) (by omega)
    have w1 : i1.toInt.toNat < r + s := by omega
    have w2 : i2.toInt.toNat < c + s := by omega
    generalize i1.toInt.toNat = m1 at u1 w1
    generalize i2.toInt.toNat = m2 at u2 w2
    rw [u1, u2, nj_cl (by omega), nj_cl (by omega)]
    refine bto (c_plainOf hf hh (by omega) (by omega) a7 (by omega) (by omega) (by omega)) ?_
    rfl
  · refine (if_neg c4).trans ?_
    rw [yi_lt, fc] at c4
    rw [show yIn i2 0 (c + s - 1) = false from decide_eq_false (by omega), if_neg (fun z => absurd z.2 (by decide))]
theorem eL_plain {n : Nat → Int32} {t : Nat → Nat → Int32} {on : Int64} {r kk c g s : Nat} {G H : Nat → Nat → Int32} {i1 i2 : Int32} (J : yJob r kk c g s) (hn : n 0 = nI r ∧ n 1 = nI kk ∧ n 2 = nI c ∧ n 3 = nI g ∧ n 4 = nI s) (hf : yTG (t 0) G) (hh : yTG (t 1) H) : gL_plain n t on i1 i2 = some (if yIn i1 0 (r + s - 1) = true ∧ yIn i2 0 (c + s - 1) = true then (0, n, t, (yPlain r kk c g r G c H i1.toNatClampNeg i2.toNatClampNeg).toInt64) else (1, n, t, on)) := by
  obtain ⟨h0, h1, h2, h3, h4⟩ := hn
  unfold gL_plain fL_plain
  simp only [h0, h1, h2, h3, h4]
  have e := c_plain (i1 := i1) (i2 := i2) J (hf.q (by have := J.1.2; omega) (by have := J.2.1.2; omega)) (hh.q (by have := J.2.1.2; omega) (by have := J.2.2.1.2; omega))
  by_cases h : yIn i1 0 (r + s - 1) = true ∧ yIn i2 0 (c + s - 1) = true
  · rw [if_pos h] at e ⊢
    exact bto (bto e rfl) rfl
  · rw [if_neg h] at e ⊢
    exact bto (bto e rfl) rfl
theorem yMw_m {sh r kk c g s : Nat} {m : Nat → Int32} {k : Nat → Nat} {G : Nat → Nat → Nat → Int32} (h : yMw sh m k G r kk c g s) : yMw (min sh 2) m k G r kk c g s := by
  obtain ⟨J, M, b1, b2, q4, q5, hr⟩ := h
  exact ⟨J, M, b1, b2, q4, q5, fun z => hr (by omega)⟩
theorem yR2_m {n : Nat → Int32} {t : Nat → Nat → Int32} {sh : Nat} {m : Nat → Int32} {k : Nat → Nat} {G : Nat → Nat → Nat → Int32} (h : yR2 n t sh m k G) : yR2 n t (min sh 2) m k G := by
  obtain ⟨hC, r, kk, c, g, s, hM, hn, h0, h1⟩ := h
  exact ⟨hC, r, kk, c, g, s, yMw_m hM, hn, h0, h1⟩
theorem yR2_q {n : Nat → Int32} {t : Nat → Nat → Int32} {sh : Nat} {m : Nat → Int32} {k : Nat → Nat} {G : Nat → Nat → Nat → Int32} (x : Int32) (h : yR2 n t sh m k G) : yR2 n t (min sh 2) (va_up m 0 x) k G := by
  obtain ⟨hC, r, kk, c, g, s, hM, hn, h0, h1⟩ := h
  exact ⟨hC, r, kk, c, g, s, yMw_0 (yMw_m hM), hn, h0, h1⟩
def yAns (v : Int32 × Int32) (sh : Nat) (m : Nat → Int32) (L : Int64) (k : Nat → Nat) (G : Nat → Nat → Nat → Int32) : Int32 × Nat × (Nat → Int32) × Int64 × (Nat → Nat) × (Nat → Nat → Nat → Int32) := (v.1, min sh 2, va_up m 0 v.2, L, k, G)
theorem eM_plain {sh r kk c g s : Nat} {m : Nat → Int32} {L : Int64} {k : Nat → Nat} {G : Nat → Nat → Nat → Int32} {i1 i2 : Int32} (h : yMw sh m k G r kk c g s) : gX9w_plain sh m L k G i1 i2 = some (yAns (if yIn i1 0 (r + s - 1) = true ∧ yIn i2 0 (c + s - 1) = true then (yPlain r kk c g r (G 0) c (G 1) i1.toNatClampNeg i2.toNatClampNeg, 0) else (0, 1)) sh m L k G) := by
  obtain ⟨J, ⟨h8, h9, h10, h11, h12, q0, q1, q2, q3⟩, b1, b2, q4, q5, hr⟩ := id h
  match sh with
  | 0 =>
    unfold gX9w_plain
    dsimp only
    simp only [h8, h9, h10, h11, h12, q0, q1, q2, q3]
    exact bto (e_plain_i J) rfl
  | 1 =>
    unfold gX9w_plain
    dsimp only
    simp only [h8, h9, h10, h11, h12, q0, q1, q2, q3]
    exact bto (e_plain_i J) rfl
  | z + 2 =>
    unfold gX9w_plain yAns
    rw [show min (z + 2) 2 = 2 by omega]
    dsimp only
    simp only [h8, h9, h10, h11, h12, q0, q1, q2, q3]
    exact bto (e_plain_r J) rfl
theorem sx_plain {n : Nat → Int32} {t : Nat → Nat → Int32} {sh : Nat} {m : Nat → Int32} {L : Int64} {k : Nat → Nat} {G : Nat → Nat → Nat → Int32} {on : Int64} {i1 i2 : Int32} (h : yR2 n t sh m k G) : ∃ x y, gL_plain n t on i1 i2 = some x ∧ gX9w_plain sh m L k G i1 i2 = some y ∧ yR2 x.2.1 x.2.2.1 y.2.1 y.2.2.1 y.2.2.2.2.1 y.2.2.2.2.2 ∧ y.2.2.1 0 = x.1 ∧ (x.1 = 0 → x.2.2.2 = y.1.toInt64) := by
  obtain ⟨hC, r, kk, c, g, s, hM, hn, h0, h1⟩ := id h
  have ex := eL_plain (on := on) (i1 := i1) (i2 := i2) hM.1 hn h0 h1
  have ey := eM_plain (L := L) (i1 := i1) (i2 := i2) hM
  by_cases hv : yIn i1 0 (r + s - 1) = true ∧ yIn i2 0 (c + s - 1) = true
  · rw [if_pos hv] at ex ey
    exact ⟨_, _, ex, ey, yR2_q _ h, rfl, fun _ => rfl⟩
  · rw [if_neg hv] at ex ey
    exact ⟨_, _, ex, ey, yR2_q _ h, rfl, fun z => absurd z (show ¬ (1 : Int32) = 0 by decide)⟩
