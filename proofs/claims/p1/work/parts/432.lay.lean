/-! ===== layouts of the reference, exactly ===== -/
def yCross (K : Nat → Nat → Int32) (m1 m2 : Nat) : Bool := yAny 5 (fun i => yAny 5 (fun j => yBit m1 i && (yBit m2 j && !decide (K i j = 0))))
theorem e_cross_in {K : Nat → Nat → Int32} {m1 m2 i : Nat} (h1 : m1 < 32) (h2 : m2 < 32) (hi : i < 5) : (wl (S := Int32) (B := (Int32) ⊕ Int32) (fun s_4 => (if 5 ≤ s_4 then some (.inr (.inl s_4)) else ((fX9_has (nI m1) (nI i)).bind fun x_7 => (if x_7 = 0 then some (.inl (s_4 + 1)) else ((fX9_has (nI m2) s_4).bind fun x_12 => (if x_12 = 0 then some (.inl (s_4 + 1)) else (if ¬ ((nI i) < 0 ∨ 5 ≤ (nI i).toNatClampNeg) then (if ¬ (s_4 < 0 ∨ 5 ≤ s_4.toNatClampNeg) then (if (K (nI i).toNatClampNeg s_4.toNatClampNeg) = 0 then some (.inl (s_4 + 1)) else some (.inr (.inr 1))) else none) else none))))))) yFuel 0) = some (if yAny 5 (fun j => yBit m1 i && (yBit m2 j && !decide (K i j = 0))) = true then .inr 1 else .inl (nI 5)) := by
  refine wl_any (fun m => nI m) 5 (fun j => yBit m1 i && (yBit m2 j && !decide (K i j = 0))) rfl (by decide) (fun j hj hp => ?_) (fun j hj hp => ?_) ?_
  · have g1 : ¬ (5 : Int32) ≤ nI j := fun z => by rw [li5, nj_le (by decide) (by omega)] at z; omega
    refine (if_neg g1).trans ?_
    refine bto (e_has m1 h1 i (by omega)) ?_
    cases e1 : yBit m1 i
    · rw [yb_f, if_pos li0.symm, nj_p1]
    · rw [yb_t, if_neg (show ¬ nI 1 = 0 by decide)]
      refine bto (e_has m2 h2 j (by omega)) ?_
      cases e2 : yBit m2 j
      · rw [yb_f, if_pos li0.symm, nj_p1]
      · rw [yb_t, if_neg (show ¬ nI 1 = 0 by decide), if_pos (nj_in hi (by omega)), if_pos (nj_in hj (by omega)), nj_cl (by omega), nj_cl (by omega)]
        rw [e1, e2, Bool.true_and, Bool.true_and] at hp
        rw [if_pos (by simpa using hp), nj_p1]
  · have g1 : ¬ (5 : Int32) ≤ nI j := fun z => by rw [li5, nj_le (by decide) (by omega)] at z; omega
    rw [Bool.and_eq_true, Bool.and_eq_true] at hp
    refine (if_neg g1).trans ?_
    refine bto (e_has m1 h1 i (by omega)) ?_
    rw [hp.1, yb_t, if_neg (show ¬ nI 1 = 0 by decide)]
    refine bto (e_has m2 h2 j (by omega)) ?_
    rw [hp.2.1, yb_t, if_neg (show ¬ nI 1 = 0 by decide), if_pos (nj_in hi (by omega)), if_pos (nj_in hj (by omega)), nj_cl (by omega), nj_cl (by omega), if_neg (by simpa using hp.2.2)]
  · exact if_pos (show (5 : Int32) ≤ nI 5 by decide)
theorem e_crosses_i {K : Nat → Nat → Int32} {m1 m2 : Nat} (h1 : m1 < 32) (h2 : m2 < 32) : fX9_crosses_i K (nI m1) (nI m2) = some (yb (yCross K m1 m2)) := by
  unfold fX9_crosses_i
  refine bto (wl_any (b1 := .inr 1) (b2 := .inl (nI 5)) (fun m => nI m) 5 (fun i => yAny 5 (fun j => yBit m1 i && (yBit m2 j && !decide (K i j = 0)))) rfl (by decide) (fun i hi hp => ?_) (fun i hi hp => ?_) ?_) ?_
  · have g1 : ¬ (5 : Int32) ≤ nI i := fun z => by rw [li5, nj_le (by decide) (by omega)] at z; omega
    refine (if_neg g1).trans ?_
    refine bto (e_cross_in h1 h2 hi) ?_
    rw [hp, if_neg (by decide)]
    show some (Sum.inl (nI i + 1)) = _
    rw [nj_p1]
  · have g1 : ¬ (5 : Int32) ≤ nI i := fun z => by rw [li5, nj_le (by decide) (by omega)] at z; omega
    refine (if_neg g1).trans ?_
    refine bto (e_cross_in h1 h2 hi) ?_
    rw [hp, if_pos rfl]
    rfl
  · exact if_pos (show (5 : Int32) ≤ nI 5 by decide)
  show ybr (if yCross K m1 m2 = true then Sum.inr 1 else Sum.inl (nI 5)) _ _ = _
  cases yCross K m1 m2 <;> rfl
theorem e_crosses_r {K : Nat → Nat → Int32} {m1 m2 : Nat} (h1 : m1 < 32) (h2 : m2 < 32) : fX9_crosses_r K (nI m1) (nI m2) = some (yb (yCross K m1 m2)) := e_crosses_i h1 h2
def yTl (a b : Nat) : Nat := (a + b - 1) / b
theorem e_tiles {a b : Nat} (ha : a < 100) (hb : b < 100) (h1 : 1 ≤ b) : fX9_tiles (nI a) (nI b) = some (nI (yTl a b)) := by
  unfold fX9_tiles yTl
  rw [if_pos (by rw [li0, nj_eq (by omega) (by decide)]; omega), nj_add, li1, nj_sub (by omega), nj_div (by omega) (by omega)]
def ySz (a b i : Nat) : Nat := min b (a - i * b)
theorem e_size {a b i : Nat} (ha : a < 100) (hb : b < 100) (h : i * b ≤ a) : fX9_size (nI a) (nI b) (nI i) = some (nI (ySz a b i)) := by
  unfold fX9_size ySz
  rw [nj_mul, nj_sub h, nj_min (by omega) (by omega)]
theorem yTl_lt {a b i : Nat} (h1 : 1 ≤ b) (h : i < yTl a b) : i * b < a := by
  unfold yTl at h
  have e := Nat.div_mul_le_self (a + b - 1) b
  have e2 : (i + 1) * b ≤ (a + b - 1) / b * b := Nat.mul_le_mul_right b h
  rw [Nat.succ_mul] at e2
  omega
theorem ySz_of {a b i : Nat} (h1 : 1 ≤ b) (h : i < yTl a b) : 1 ≤ ySz a b i ∧ ySz a b i ≤ b ∧ i * b + ySz a b i ≤ a := by
  have := yTl_lt h1 h
  unfold ySz
  omega
theorem yTl_le {a b : Nat} (h1 : 1 ≤ b) : yTl a b ≤ a := by
  unfold yTl
  by_cases h : a = 0
  · subst h
    have : (0 + b - 1) / b = 0 := Nat.div_eq_of_lt (by omega)
    omega
  · have h2 : a + b - 1 ≤ a * b := by
      obtain ⟨x, rfl⟩ : ∃ x, a = x + 1 := ⟨a - 1, by omega⟩
      have : x ≤ x * b := Nat.le_mul_of_pos_right x h1
      rw [Nat.succ_mul]
      omega
    exact Nat.div_le_of_le_mul (by rw [Nat.mul_comm]; exact h2)
theorem yTl_pos {a b : Nat} (h1 : 1 ≤ b) (h : 1 ≤ a) : 1 ≤ yTl a b := by
  unfold yTl
  exact (Nat.le_div_iff_mul_le h1).mpr (by omega)
def yRowB (R C h w st i : Nat) : Nat := ySm (yTl C w) (fun j => ySz R h i + ySz C w j + st - 1)
def yBeats (R C h w st : Nat) : Nat := ySm (yTl R h) (yRowB R C h w st)
theorem ySm_le {n : Nat} {f : Nat → Nat} {b : Nat} (h : ∀ i, i < n → f i ≤ b) : ySm n f ≤ n * b := by
  induction n with
  | zero => exact Nat.zero_le _
  | succ n ih =>
    show ySm n f + f n ≤ (n + 1) * b
    rw [Nat.succ_mul]
    have := ih (fun i hi => h i (by omega))
    have := h n (by omega)
    omega
theorem e_beatsOf {r c s m1 m2 st : Nat} (hr : r ≤ 8) (hc : c ≤ 8) (hs : s ≤ 1) (h1 : 1 ≤ m1) (h2 : m1 < 32) (h3 : 1 ≤ m2) (h4 : m2 < 32) (hst : 1 ≤ st) (hst2 : st ≤ 6) : fX9_beatsOf (nI r) (nI c) (nI s) (nI m1) (nI m2) (nI st) = some (nI (yBeats (r + s) (c + s) (yPop m1) (yPop m2) st)) := by
  unfold fX9_beatsOf
  have p1 := yPop_pos m1 h2 h1
  have p2 := yPop_pos m2 h4 h3
  have q1 := yPop_le m1 h2
  have q2 := yPop_le m2 h4
  refine bto (e_pop m1 (by omega)) ?_
  refine bto (e_pop m2 (by omega)) ?_
  have t1 := yTl_le (a := r + s) p1
  have t2 := yTl_le (a := c + s) p2
  refine bto (wl_eq (fun i => (nI (ySm i (yRowB (r + s) (c + s) (yPop m1) (yPop m2) st)), nI i)) 0 (yTl (r + s) (yPop m1)) (b := (nI (yBeats (r + s) (c + s) (yPop m1) (yPop m2) st), nI (yTl (r + s) (yPop m1)))) rfl (Nat.zero_le _) (by omega) (fun i _ hi => ?_) ?_) rfl
  · refine bto (e_rows hs) ?_
    refine bto (e_tiles (by omega) (by omega) p1) ?_
    refine (if_neg (fun z => ?_)).trans ?_
    · rw [nj_le (by omega) (by omega)] at z
      omega
    have u1 := ySz_of p1 hi
    refine bto (wl_eq (fun j => (nI (ySm i (yRowB (r + s) (c + s) (yPop m1) (yPop m2) st) + ySm j (fun j => ySz (r + s) (yPop m1) i + ySz (c + s) (yPop m2) j + st - 1)), nI j)) 0 (yTl (c + s) (yPop m2)) (b := (nI (ySm i (yRowB (r + s) (c + s) (yPop m1) (yPop m2) st) + yRowB (r + s) (c + s) (yPop m1) (yPop m2) st i), nI (yTl (c + s) (yPop m2)))) rfl (Nat.zero_le _) (by omega) (fun j _ hj => ?_) ?_) ?_
    · refine bto (e_columns hs) ?_
      refine bto (e_tiles (by omega) (by omega) p2) ?_
      refine (if_neg (fun z => ?_)).trans ?_
      · rw [nj_le (by omega) (by omega)] at z
        omega
      have u2 := ySz_of p2 hj
      refine bto (e_rows hs) ?_
      refine bto (e_size (by omega) (by omega) (by omega)) ?_
      refine bto (e_columns hs) ?_
      refine bto (e_size (by omega) (by omega) (by omega)) ?_
      simp only [nj_add, nj_p1, li1]
      rw [nj_sub (by omega), nj_add]
      rw [Nat.add_assoc]
      rfl
    · refine bto (e_columns hs) ?_
      refine bto (e_tiles (by omega) (by omega) p2) ?_
      exact if_pos (by rw [nj_le (by omega) (by omega)]; exact Nat.le_refl _)
    · show some (Sum.inl (_, nI i + 1)) = _
      rw [nj_p1]
      rfl
  · refine bto (e_rows hs) ?_
    refine bto (e_tiles (by omega) (by omega) p1) ?_
    exact if_pos (by rw [nj_le (by omega) (by omega)]; exact Nat.le_refl _)
theorem yBeats_le {R C h w st : Nat} (hR : R ≤ 9) (hC : C ≤ 9) (h1 : 1 ≤ h) (h2 : h ≤ 5) (w1 : 1 ≤ w) (w2 : w ≤ 5) (hst : st ≤ 6) : yBeats R C h w st ≤ 1296 := by
  unfold yBeats
  have t1 := yTl_le (a := R) h1
  have t2 := yTl_le (a := C) w1
  have a1 : ∀ i, i < yTl R h → yRowB R C h w st i ≤ 144 := fun i hi => by
    unfold yRowB
    have b1 : ∀ j, j < yTl C w → ySz R h i + ySz C w j + st - 1 ≤ 16 := fun j hj => by
      have := ySz_of h1 hi
      have := ySz_of w1 hj
      omega
    have := ySm_le b1
    omega
  have := ySm_le a1
  omega
/-- the best, one set of rows after another -/
def yStep (x : Nat → Nat → Bool) (key : Nat → Nat → Nat) (a b : Nat) (z : Nat × Nat × Nat) : Nat × Nat × Nat := if x a b = true then z else if z.2.1 = 0 ∨ key a b < z.1 then (key a b, a, b) else z
def yBrow (x : Nat → Nat → Bool) (key : Nat → Nat → Nat) (a j : Nat) (z : Nat × Nat × Nat) : Nat × Nat × Nat := yFold j (fun b z => yStep x key a (b + 1) z) z
def yBall (x : Nat → Nat → Bool) (key : Nat → Nat → Nat) (i : Nat) : Nat × Nat × Nat := yFold i (fun a z => yBrow x key (a + 1) 31 z) (0, 0, 0)
def yKey (R C st a b : Nat) : Nat := 100 * yBeats R C (yPop a) (yPop b) st + yPop a * yPop b
def yBest (K : Nat → Nat → Int32) (R C st : Nat) : Nat × Nat × Nat := yBall (yCross K) (yKey R C st) 31
def yKq (R C st q : Nat) : Nat := 100 * yBeats R C (q / 5 + 1) (q % 5 + 1) st + (q / 5 + 1) * (q % 5 + 1)
def yCnt (n : Nat) (p : Nat → Bool) : Nat := ySm n (fun i => if p i = true then 1 else 0)
theorem yCnt_le (n : Nat) (p : Nat → Bool) : yCnt n p ≤ n := by
  have := ySm_le (n := n) (f := fun i => if p i = true then 1 else 0) (b := 1) (fun i _ => by
    show (if p i = true then 1 else 0) ≤ 1
    split <;> omega)
  unfold yCnt
  omega
theorem yCnt_mono {n : Nat} {p q : Nat → Bool} (h : ∀ i, i < n → p i = true → q i = true) : yCnt n p ≤ yCnt n q := by
  induction n with
  | zero => exact Nat.le_refl _
  | succ n ih =>
    show yCnt n p + (if p n = true then 1 else 0) ≤ yCnt n q + (if q n = true then 1 else 0)
    have a := ih (fun i hi => h i (by omega))
    by_cases e : p n = true
    · rw [if_pos e, if_pos (h n (by omega) e)]; omega
    · rw [if_neg e]; omega
theorem yCnt_lt {n : Nat} {p q : Nat → Bool} (h : ∀ i, i < n → p i = true → q i = true) {k : Nat} (hk : k < n) (h1 : p k = false) (h2 : q k = true) : yCnt n p + 1 ≤ yCnt n q := by
  induction n with
  | zero => omega
  | succ n ih =>
    show yCnt n p + (if p n = true then 1 else 0) + 1 ≤ yCnt n q + (if q n = true then 1 else 0)
    by_cases e : k = n
    · subst e
      have a := yCnt_mono (n := k) (p := p) (q := q) (fun i hi => h i (by omega))
      rw [h1, h2, if_neg (by decide), if_pos rfl]
      omega
    · have a := ih (fun i hi => h i (by omega)) (by omega)
      by_cases e : p n = true
      · rw [if_pos e, if_pos (h n (by omega) e)]; omega
      · rw [if_neg e]; omega
/-- how many of the 25 keys are not below -/
def yUp (R C st l : Nat) : Nat := yCnt 25 (fun q => decide (l ≤ yKq R C st q))
theorem yUp_step {R C st l a b : Nat} (ha : 1 ≤ a) (ha2 : a < 32) (hb : 1 ≤ b) (hb2 : b < 32) (h : yKey R C st a b < l) : yUp R C st l + 1 ≤ yUp R C st (yKey R C st a b) := by
  have p1 := yPop_pos a ha2 ha
  have p2 := yPop_pos b hb2 hb
  have q1 := yPop_le a ha2
  have q2 := yPop_le b hb2
  have e : yKq R C st ((yPop a - 1) * 5 + (yPop b - 1)) = yKey R C st a b := by
    unfold yKq yKey
    have e1 : ((yPop a - 1) * 5 + (yPop b - 1)) / 5 + 1 = yPop a := by omega
    have e2 : ((yPop a - 1) * 5 + (yPop b - 1)) % 5 + 1 = yPop b := by omega
    rw [e1, e2]
  refine yCnt_lt (k := (yPop a - 1) * 5 + (yPop b - 1)) (fun q hq hp => ?_) (by omega) ?_ ?_
  · have hp := of_decide_eq_true hp
    exact decide_eq_true (by omega)
  · rw [e]
    exact decide_eq_false (by omega)
  · rw [e]
    exact decide_eq_true (Nat.le_refl _)
/-- a state of the reference's loops is a state of the fold -/
def yBS (R C st : Nat) (z : Nat × Nat × Nat) (l : Int32) (f : Nat → Int32) (n c s : Nat) : Prop := s + 2 = 2 * c ∧ 1 ≤ c ∧ ((z.2.1 = 0 ∧ n = 0 ∧ c = 1) ∨ (1 ≤ z.2.1 ∧ z.2.1 < 32 ∧ 1 ≤ z.2.2 ∧ z.2.2 < 32 ∧ n = 2 ∧ z.1 < 200000 ∧ l = nI z.1 ∧ f 0 = nI z.2.1 ∧ f 1 = nI z.2.2 ∧ c ≤ 1 + yUp R C st z.1))
theorem yBS_cs {R C st : Nat} {z : Nat × Nat × Nat} {l : Int32} {f : Nat → Int32} {n c s : Nat} (h : yBS R C st z l f n c s) : c ≤ 26 ∧ s ≤ 50 := by
  obtain ⟨h1, h2, h3⟩ := h
  have := yCnt_le 25 (fun q => decide (z.1 ≤ yKq R C st q))
  have e : yUp R C st z.1 ≤ 25 := this
  rcases h3 with ⟨-, -, h4⟩ | ⟨-, -, -, -, -, -, -, -, -, h4⟩ <;> omega
theorem yBest_in {R C st a : Nat} {b : Nat} {z : Nat × Nat × Nat} {l : Int32} {f : Nat → Int32} {n c s : Nat} (ha : 1 ≤ a) (ha2 : a < 32) (hb : 1 ≤ b) (hb2 : b < 32) (hk : yKey R C st a b < 200000) (h : yBS R C st z l f n c s) (h2 : z.2.1 = 0 ∨ yKey R C st a b < z.1) : yBS R C st (yKey R C st a b, a, b) (nI (yKey R C st a b)) (upd (upd (fun _ => 0) 0 (nI a)) 1 (nI b)) 2 (c + 1) (s + 2) := by
  obtain ⟨h1, h3, h4⟩ := h
  refine ⟨by omega, by omega, Or.inr ⟨ha, ha2, hb, hb2, rfl, hk, rfl, rfl, rfl, ?_⟩⟩
  show c + 1 ≤ 1 + yUp R C st (yKey R C st a b)
  have p1 := yPop_pos a ha2 ha
  have p2 := yPop_pos b hb2 hb
  have q1 := yPop_le a ha2
  have q2 := yPop_le b hb2
  rcases h4 with ⟨h5, h6, h7⟩ | ⟨h5, -, -, -, -, -, -, -, -, h6⟩
  · have : yCnt 25 (fun _ => false) + 1 ≤ yUp R C st (yKey R C st a b) := by
      refine yCnt_lt (k := (yPop a - 1) * 5 + (yPop b - 1)) (fun q hq hp => absurd hp (by decide)) (by omega) rfl ?_
      have e1 : ((yPop a - 1) * 5 + (yPop b - 1)) / 5 + 1 = yPop a := by omega
      have e2 : ((yPop a - 1) * 5 + (yPop b - 1)) % 5 + 1 = yPop b := by omega
      unfold yKq yKey
      rw [e1, e2]
      exact decide_eq_true (Nat.le_refl _)
    omega
  · have h2 : yKey R C st a b < z.1 := by omega
    have := yUp_step ha ha2 hb hb2 h2
    omega
theorem cl0 : (0 : Int32).toNatClampNeg = 0 := by decide
theorem cl1 : (1 : Int32).toNatClampNeg = 1 := by decide
def yBR (z : Nat × Nat × Nat) (o : (Nat → Int32) × Nat) : Prop := (z.2.1 = 0 ∧ o.2 = 0) ∨ (1 ≤ z.2.1 ∧ z.2.1 < 32 ∧ 1 ≤ z.2.2 ∧ z.2.2 < 32 ∧ o.2 = 2 ∧ o.1 0 = nI z.2.1 ∧ o.1 1 = nI z.2.2)
theorem yKey_lt {R C st a b : Nat} (hR : R ≤ 9) (hC : C ≤ 9) (hst : st ≤ 6) (ha : 1 ≤ a) (ha2 : a < 32) (hb : 1 ≤ b) (hb2 : b < 32) : yKey R C st a b < 200000 := by
  unfold yKey
  have p1 := yPop_pos a ha2 ha
  have p2 := yPop_pos b hb2 hb
  have q1 := yPop_le a ha2
  have q2 := yPop_le b hb2
  have := yBeats_le (st := st) hR hC p1 q1 p2 q2 hst
  have : yPop a * yPop b ≤ 5 * 5 := Nat.mul_le_mul q1 q2
  omega
theorem e_bestLayout_i {r k c g s an ak bn bk : Nat} {G H K : Nat → Nat → Int32} (hr : r ≤ 8) (hc : c ≤ 8) (hk : 1 ≤ k) (hk6 : k ≤ 6) (hg : g ≤ 2) (hs : s ≤ 1) (han : an ≤ 9) (hbk : bk ≤ 9) (hka : k ≤ ak) (hkb : k ≤ bn) : Ok (fX9_bestLayout_i (nI r) (nI k) (nI c) (nI g) (nI s) an ak G bn bk H K) (yBR (yBest K (r + s) (c + s) (ySt k (yIdle g an G bk H)))) := by
  unfold fX9_bestLayout_i
  have hst := ySt_of (k := k) (yIdle g an G bk H) (by omega) hk
  refine Ok.to (e_steps hg han hbk hk hk6 hka hkb) ?_
  generalize ySt k (yIdle g an G bk H) = st at hst ⊢
  have hst6 : st ≤ 6 := by omega
  refine Ok.bind (Ok.for (P := fun (b : Int32 × Int32 × (Nat → Int32) × Nat × Nat × Nat) => yBS (r + s) (c + s) st (yBall (yCross K) (yKey (r + s) (c + s) st) 31) b.1 b.2.2.1 b.2.2.2.1 b.2.2.2.2.1 b.2.2.2.2.2) (fun (i : Nat) (z : Int32 × Int32 × (Nat → Int32) × Nat × Nat × Nat) => z.2.1 = nI (i + 1) ∧ yBS (r + s) (c + s) st (yBall (yCross K) (yKey (r + s) (c + s) st) i) z.1 z.2.2.1 z.2.2.2.1 z.2.2.2.2.1 z.2.2.2.2.2) 0 31 ⟨rfl, rfl, Nat.le_refl _, Or.inl ⟨rfl, rfl, rfl⟩⟩ (by decide) (by decide) (fun i z _ hi hI => ?_) (fun z hI => ?_)) (fun b hb => ?_)
  · obtain ⟨l, q, f, n, cc, sl⟩ := z
    obtain ⟨hq, hB⟩ := hI
    have hq : q = nI (i + 1) := hq
    subst hq
    dsimp only at hB ⊢
    have hcs := yBS_cs hB
    refine Ok.grd ⟨by omega, by omega⟩ ?_
    refine Ok.ite (fun z => absurd z (by rw [li32, nj_le (by decide) (by omega)]; omega)) (fun _ => ?_)
    refine Ok.bind (Ok.for (P := fun (b : Int32 × Int32 × (Nat → Int32) × Nat × Nat × Nat) => yBS (r + s) (c + s) st (yBrow (yCross K) (yKey (r + s) (c + s) st) (i + 1) 31 (yBall (yCross K) (yKey (r + s) (c + s) st) i)) b.1 b.2.2.1 b.2.2.2.1 b.2.2.2.2.1 b.2.2.2.2.2) (fun (j : Nat) (z : Int32 × Int32 × (Nat → Int32) × Nat × Nat × Nat) => z.2.1 = nI (j + 1) ∧ yBS (r + s) (c + s) st (yBrow (yCross K) (yKey (r + s) (c + s) st) (i + 1) j (yBall (yCross K) (yKey (r + s) (c + s) st) i)) z.1 z.2.2.1 z.2.2.2.1 z.2.2.2.2.1 z.2.2.2.2.2) 0 31 ⟨rfl, hB⟩ (by decide) (by decide) (fun j z _ hj hI => ?_) (fun z hI => ?_)) (fun b hb => ?_)
    · obtain ⟨l, q, f, n, cc, sl⟩ := z
      obtain ⟨hq, hB⟩ := hI
      have hq : q = nI (j + 1) := hq
      subst hq
      have hz : yBrow (yCross K) (yKey (r + s) (c + s) st) (i + 1) (j + 1) (yBall (yCross K) (yKey (r + s) (c + s) st) i) = yStep (yCross K) (yKey (r + s) (c + s) st) (i + 1) (j + 1) (yBrow (yCross K) (yKey (r + s) (c + s) st) (i + 1) j (yBall (yCross K) (yKey (r + s) (c + s) st) i)) := rfl
      rw [hz]
      generalize yBrow (yCross K) (yKey (r + s) (c + s) st) (i + 1) j (yBall (yCross K) (yKey (r + s) (c + s) st) i) = w at hB ⊢
      dsimp only at hB ⊢
      have hcs := yBS_cs hB
      have hkl : yKey (r + s) (c + s) st (i + 1) (j + 1) < 200000 := yKey_lt (by omega) (by omega) hst6 (by omega) (by omega) (by omega) (by omega)
      refine Ok.grd ⟨by omega, by omega⟩ ?_
      refine Ok.ite (fun z => absurd z (by rw [li32, nj_le (by decide) (by omega)]; omega)) (fun _ => ?_)
      refine Ok.to (e_crosses_i (by omega) (by omega)) ?_
      cases e : yCross K (i + 1) (j + 1)
      · refine Ok.ite (fun _ => ?_) (fun z => absurd (by decide) z)
        refine Ok.to (e_beatsOf hr hc hs (by omega) (by omega) (by omega) (by omega) hst.1 hst6) ?_
        refine Ok.to (e_pop _ (by omega)) ?_
        refine Ok.to (e_pop _ (by omega)) ?_
        have hkey : (100 : Int32) * nI (yBeats (r + s) (c + s) (yPop (i + 1)) (yPop (j + 1)) st) + nI (yPop (i + 1)) * nI (yPop (j + 1)) = nI (yKey (r + s) (c + s) st (i + 1) (j + 1)) := by
          rw [li100, nj_mul, nj_mul, nj_add]
          rfl
        rw [hkey]
        have hin := yBest_in (R := r + s) (C := c + s) (st := st) (a := i + 1) (b := j + 1) (by omega) (by omega) (by omega) (by omega) hkl hB
        rcases id hB with ⟨_, _, ⟨z1, z2, z3⟩ | ⟨z1, _, _, _, z5, z6, z7, _, _, _⟩⟩
        · refine Ok.ite (fun _ => ?_) (fun z => absurd (by rw [z2]; decide) z)
          refine Ok.grd ⟨by omega, by omega⟩ ?_
          refine Ok.grd (by decide) ?_
          refine Ok.grd (by decide) ?_
          refine Ok.some ⟨nj_p1 _, ?_⟩
          dsimp only
          rw [cl0, cl1]
          unfold yStep
          rw [e, if_neg (by decide), if_pos (Or.inl z1)]
          exact hin (Or.inl z1)
        · refine Ok.ite (fun z => absurd z (by rw [z5]; decide)) (fun _ => ?_)
          rw [z7]
          refine Ok.ite (fun z => ?_) (fun z => ?_)
          · rw [nj_lt (by omega) (by omega)] at z
            refine Ok.grd ⟨by omega, by omega⟩ ?_
            refine Ok.grd (by decide) ?_
            refine Ok.grd (by decide) ?_
            refine Ok.some ⟨nj_p1 _, ?_⟩
            dsimp only
            rw [cl0, cl1]
            unfold yStep
            rw [e, if_neg (by decide), if_pos (Or.inr z)]
            exact hin (Or.inr z)
          · rw [nj_lt (by omega) (by omega)] at z
            refine Ok.some ⟨nj_p1 _, ?_⟩
            dsimp only
            rw [← z7]
            unfold yStep
            rw [e, if_neg (by decide), if_neg (by omega)]
            exact hB
      · refine Ok.ite (fun z => absurd z (by decide)) (fun _ => ?_)
        refine Ok.some ⟨nj_p1 _, ?_⟩
        dsimp only
        unfold yStep
        rw [e, if_pos rfl]
        exact hB
    · obtain ⟨l, q, f, n, cc, sl⟩ := z
      obtain ⟨hq, hB⟩ := hI
      have hq : q = nI (31 + 1) := hq
      subst hq
      dsimp only at hB ⊢
      have hcs := yBS_cs hB
      refine Ok.grd ⟨by omega, by omega⟩ ?_
      refine Ok.ite (fun _ => Ok.some hB) (fun z => absurd (by decide) z)
    · obtain ⟨l, q, f, n, cc, sl⟩ := b
      dsimp only at hb ⊢
      have hcs := yBS_cs hb
      refine Ok.grd ⟨by omega, by omega⟩ ?_
      exact Ok.some ⟨nj_p1 _, hb⟩
  · obtain ⟨l, q, f, n, cc, sl⟩ := z
    obtain ⟨hq, hB⟩ := hI
    have hq : q = nI (31 + 1) := hq
    subst hq
    dsimp only at hB ⊢
    have hcs := yBS_cs hB
    refine Ok.grd ⟨by omega, by omega⟩ ?_
    refine Ok.ite (fun _ => Ok.some hB) (fun z => absurd (by decide) z)
  · obtain ⟨l, q, f, n, cc, sl⟩ := b
    dsimp only at hb ⊢
    have hcs := yBS_cs hb
    refine Ok.grd ⟨by omega, by omega⟩ ?_
    refine Ok.some ?_
    obtain ⟨_, _, hb⟩ := hb
    rcases hb with ⟨z1, z2, z3⟩ | ⟨z1, z2, z3, z4, z5, z6, z7, z8, z9, _⟩
    · exact Or.inl ⟨z1, z2⟩
    · exact Or.inr ⟨z1, z2, z3, z4, z5, z8, z9⟩
theorem best_ri : @fX9_bestLayout_r = @fX9_bestLayout_i := rfl
