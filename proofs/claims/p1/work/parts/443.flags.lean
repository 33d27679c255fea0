/-! ===== flags of cells: the class's sets and the reference's grids ===== -/
theorem ySm_split (a b : Nat) (f : Nat → Nat) : ySm (a + b) f = ySm a f + ySm b (fun i => f (a + i)) := by
  induction b with
  | zero => rfl
  | succ b ih =>
    show ySm (a + b) f + f (a + b) = ySm a f + (ySm b (fun i => f (a + i)) + f (a + b))
    omega
theorem ySm_grid (n : Nat) (f : Nat → Nat) : ySm (n * 5) f = ySm n (fun i => ySm 5 (fun j => f (i * 5 + j))) := by
  induction n with
  | zero => rfl
  | succ n ih =>
    rw [Nat.succ_mul, ySm_split, ih]
    rfl
theorem byte_bit (m i : Nat) (h : i < 8) : m % 256 / 2 ^ i % 2 = m / 2 ^ i % 2 := by
  rcases (show i = 0 ∨ i = 1 ∨ i = 2 ∨ i = 3 ∨ i = 4 ∨ i = 5 ∨ i = 6 ∨ i = 7 by omega) with rfl | rfl | rfl | rfl | rfl | rfl | rfl | rfl <;> omega
theorem div_pow_add (m a i : Nat) : m / 2 ^ a / 2 ^ i = m / 2 ^ (a + i) := by
  rw [Nat.div_div_eq_div_mul, Nat.pow_add]
theorem yP32_sum (m : Nat) (hm : m < 4294967296) : yP32 m = ySm 32 (fun q => m / 2 ^ q % 2) := by
  have e8 : ∀ a, yP8 (m / 2 ^ a % 256) = ySm 8 (fun i => m / 2 ^ (a + i) % 2) := fun a => by
    unfold yP8
    exact ySm_ext (fun i hi => by rw [byte_bit _ _ hi, div_pow_add])
  have h0 := e8 0
  have h1 := e8 8
  have h2 := e8 16
  have h3 := e8 24
  rw [Nat.pow_zero, Nat.div_one] at h0
  rw [show (2 : Nat) ^ 8 = 256 from rfl] at h1
  rw [show (2 : Nat) ^ 16 = 65536 from rfl] at h2
  rw [show (2 : Nat) ^ 24 = 16777216 from rfl, Nat.mod_eq_of_lt (show m / 16777216 < 256 by omega)] at h3
  have s : ySm 32 (fun q => m / 2 ^ q % 2) = ySm 8 (fun q => m / 2 ^ q % 2) + ySm 8 (fun i => m / 2 ^ (8 + i) % 2) + ySm 8 (fun i => m / 2 ^ (16 + i) % 2) + ySm 8 (fun i => m / 2 ^ (24 + i) % 2) := by
    rw [show (32 : Nat) = 8 + 8 + 8 + 8 from rfl, ySm_split, ySm_split, ySm_split]
  unfold yP32
  rw [h0, h1, h2, h3, s]
  have z : (fun i => m / 2 ^ (0 + i) % 2) = fun q => m / 2 ^ q % 2 := funext fun i => by rw [Nat.zero_add]
  rw [z]
/-- the flags of a grid, as bits of a number -/
def yFlag (x : Int32) (K : Nat → Nat → Int32) : Prop := ∀ q, q < 32 → yBB x q = (decide (q < 25) && !decide (K (q / 5) (q % 5) = 0))
theorem yFlag_num {x : Int32} {K : Nat → Nat → Int32} (h : yFlag x K) : x = nI (yBits 25 (fun q => !decide (K (q / 5) (q % 5) = 0))) := by
  refine yBB_ext (fun q hq => ?_)
  rw [h q hq, yBB_n hq]
  by_cases c : q < 25
  · rw [yBits_bit 25 _ q c, decide_eq_true c, Bool.true_and]
  · rw [decide_eq_false c, Bool.false_and, Nat.testBit_lt_two_pow]
    exact Nat.lt_of_lt_of_le (yBits_lt 25 _) (Nat.pow_le_pow_right (by decide) (by omega))
theorem yFlag_count {x : Int32} {K : Nat → Nat → Int32} (h : yFlag x K) : fJ6_bitCount_0f7a4 x = some (nI (yCount 5 5 K)) := by
  have lt : yBits 25 (fun q => !decide (K (q / 5) (q % 5) = 0)) < 4294967296 := Nat.lt_of_lt_of_le (yBits_lt 25 _) (by decide)
  rw [yFlag_num h, e_bitCount _ lt, yP32_sum _ lt]
  apply congrArg some
  apply congrArg nI
  have bit : ∀ q, q < 32 → yBits 25 (fun q => !decide (K (q / 5) (q % 5) = 0)) / 2 ^ q % 2 = (if q < 25 then yN (K (q / 5) (q % 5)) else 0) := fun q hq => by
    have t : (yBits 25 (fun q => !decide (K (q / 5) (q % 5) = 0))).testBit q = (decide (q < 25) && !decide (K (q / 5) (q % 5) = 0)) := by
      by_cases c : q < 25
      · rw [yBits_bit 25 _ q c, decide_eq_true c, Bool.true_and]
      · rw [decide_eq_false c, Bool.false_and, Nat.testBit_lt_two_pow]
        exact Nat.lt_of_lt_of_le (yBits_lt 25 _) (Nat.pow_le_pow_right (by decide) (by omega))
    rw [Nat.testBit_eq_decide_div_mod_eq] at t
    unfold yN
    by_cases c : q < 25
    · rw [if_pos c]
      rw [decide_eq_true c, Bool.true_and] at t
      by_cases e : K (q / 5) (q % 5) = 0
      · rw [if_pos e]
        rw [decide_eq_true e] at t
        have t := of_decide_eq_false t
        omega
      · rw [if_neg e]
        rw [decide_eq_false e] at t
        exact of_decide_eq_true t
    · rw [if_neg c]
      rw [decide_eq_false c, Bool.false_and] at t
      have t := of_decide_eq_false t
      omega
  rw [ySm_ext bit, show (32 : Nat) = 5 * 5 + 7 from rfl, ySm_split]
  have z : ySm 7 (fun i => if 5 * 5 + i < 25 then yN (K ((5 * 5 + i) / 5) ((5 * 5 + i) % 5)) else 0) = 0 := by
    rw [ySm_ext (g := fun _ => 0) (fun i _ => if_neg (by omega)), ySm_zero]
  rw [z, ySm_grid]
  refine ySm_ext (fun i hi => ySm_ext (fun j hj => ?_))
  rw [if_pos (by omega), show (i * 5 + j) / 5 = i by omega, show (i * 5 + j) % 5 = j by omega]
theorem yFlag_off {x : Int32} {K : Nat → Nat → Int32} {i j : Nat} (h : yFlag x K) (hi : i < 5) (hj : j < 5) : yFlag (x &&& (((1 : Int32) <<< (nI (i * 5 + j) &&& 31)) ^^^ (-1))) (upg K i j 0) := by
  intro q hq
  rw [yBB_and, yBB_not _ _ hq, yBB_bit _ (by omega) q hq, h q hq]
  unfold upg upd
  by_cases e : q = i * 5 + j
  · have e1 : q / 5 = i := by omega
    have e2 : q % 5 = j := by omega
    rw [if_pos e1, if_pos e2, decide_eq_true e]
    simp
  · rw [decide_eq_false e]
    by_cases e1 : q / 5 = i
    · rw [if_pos e1, if_neg (by omega), ← e1]
      simp
    · rw [if_neg e1]
      simp
theorem yFlag_on {x : Int32} {K : Nat → Nat → Int32} {i j : Nat} (h : yFlag x K) (hi : i < 5) (hj : j < 5) : yFlag (x ||| ((1 : Int32) <<< (nI (i * 5 + j) &&& 31))) (upg K i j 1) := by
  intro q hq
  rw [yBB_or, yBB_bit _ (by omega) q hq, h q hq]
  unfold upg upd
  by_cases e : q = i * 5 + j
  · have e1 : q / 5 = i := by omega
    have e2 : q % 5 = j := by omega
    rw [if_pos e1, if_pos e2, decide_eq_true e, decide_eq_true (show q < 25 by omega)]
    simp
  · rw [decide_eq_false e]
    by_cases e1 : q / 5 = i
    · rw [if_pos e1, if_neg (by omega), ← e1]
      simp
    · rw [if_neg e1]
      simp
theorem yFlag_ext {x : Int32} {K K2 : Nat → Nat → Int32} (h : yFlag x K) (e : ∀ i j, i < 5 → j < 5 → K2 i j = K i j) : yFlag x K2 := by
  intro q hq
  rw [h q hq]
  by_cases c : q < 25
  · rw [e (q / 5) (q % 5) (by omega) (by omega)]
  · rw [decide_eq_false c, Bool.false_and, Bool.false_and]
theorem c_onMesh {i1 i2 : Int32} : fX6_isOnMesh i1 i2 = some (yb (yIn i1 0 4 && yIn i2 0 4)) := by
  have l5 : Int32.toInt 5 = 5 := by decide
  unfold fX6_isOnMesh yIn
  by_cases c1 : i1 < 0
  · rw [if_pos c1]
    rw [yi_lt, yI0] at c1
    rw [decide_eq_false (show ¬ (0 ≤ i1.toInt ∧ i1.toInt ≤ 4) by omega)]
    rfl
  rw [if_neg c1]
  rw [yi_lt, yI0] at c1
  by_cases c2 : 5 ≤ i1
  · rw [if_pos c2]
    rw [yi_le, l5] at c2
    rw [decide_eq_false (show ¬ (0 ≤ i1.toInt ∧ i1.toInt ≤ 4) by omega)]
    rfl
  rw [if_neg c2]
  rw [yi_le, l5] at c2
  rw [decide_eq_true (show 0 ≤ i1.toInt ∧ i1.toInt ≤ 4 by omega), Bool.true_and]
  by_cases c3 : i2 < 0
  · rw [if_pos c3]
    rw [yi_lt, yI0] at c3
    rw [decide_eq_false (show ¬ (0 ≤ i2.toInt ∧ i2.toInt ≤ 4) by omega)]
    rfl
  rw [if_neg c3]
  rw [yi_lt, yI0] at c3
  by_cases c4 : 5 ≤ i2
  · rw [if_pos c4]
    rw [yi_le, l5] at c4
    rw [decide_eq_false (show ¬ (0 ≤ i2.toInt ∧ i2.toInt ≤ 4) by omega)]
    rfl
  · rw [if_neg c4]
    rw [yi_le, l5] at c4
    rw [decide_eq_true (show 0 ≤ i2.toInt ∧ i2.toInt ≤ 4 by omega)]
    rfl
theorem c_bitOf {i j : Nat} : fX0_bitOf (nI i) (nI j) = some ((1 : Int32) <<< (nI (i * 5 + j) &&& 31)) := by
  unfold fX0_bitOf
  rw [li5, nj_mul, nj_add]
/-- known columns of a set of rows -/
theorem nj_shr {x : Int32} {s q : Nat} (hs : s < 21) (hq : q < 5) : yBB ((x >>> (nI s &&& 31)) &&& 31) q = yBB x (s + q) := by
  have e31 : ∀ q, q < 5 → yBB 31 q = true := by decide +kernel
  rw [yBB_and, e31 q hq, Bool.and_true]
  unfold yBB
  rw [Int32.toBitVec_shiftRight]
  have H : ∀ s, s < 21 → ((nI s &&& 31).toBitVec.smod 32).toNat = s := by decide +kernel
  have e : x.toBitVec.sshiftRight' ((nI s &&& 31).toBitVec.smod 32) = x.toBitVec.sshiftRight s := by
    show x.toBitVec.sshiftRight ((nI s &&& 31).toBitVec.smod 32).toNat = _
    rw [H s hs]
  rw [e, BitVec.getLsbD_sshiftRight]
  rw [decide_eq_false (show ¬ 32 ≤ q by omega), if_pos (show s + q < 32 by omega)]
  rfl
theorem nj_shr_hi {x : Int32} {s q : Nat} (hq : q < 32) (h5 : 5 ≤ q) : yBB ((x >>> (nI s &&& 31)) &&& 31) q = false := by
  have e31 : ∀ q, q < 32 → 5 ≤ q → yBB 31 q = false := by decide +kernel
  rw [yBB_and, e31 q hq h5, Bool.and_false]
def yKc (K : Nat → Nat → Int32) (a n j : Nat) : Bool := yAny n (fun i => yBit a i && !decide (K i j = 0))
theorem yb_has : ∀ m, m < 32 → ∀ i, i < 5 → (((nI m >>> (nI i &&& 31)) &&& 1) = 0) = (yBit m i = false) := by
  have H : ∀ m, m < 32 → ∀ i, i < 5 → ((((nI m >>> (nI i &&& 31)) &&& 1) = 0) ↔ (yBit m i = false)) := by decide +kernel
  exact fun m hm i hi => propext (H m hm i hi)
theorem c_knownColumns {x : Int32} {K : Nat → Nat → Int32} {a : Nat} (h : yFlag x K) (ha : a < 32) : Ok (fX0_knownColumns x (nI a)) (fun z => ∀ q, q < 32 → yBB z q = (decide (q < 5) && yKc K a 5 q)) := by
  unfold fX0_knownColumns
  refine Ok.bind (Ok.for (P := fun (b : Int32 × Int32) => ∀ q, q < 32 → yBB b.1 q = (decide (q < 5) && yKc K a 5 q)) (fun (i : Nat) (z : Int32 × Int32) => z.2 = nI i ∧ ∀ q, q < 32 → yBB z.1 q = (decide (q < 5) && yKc K a i q)) 0 5 ⟨rfl, fun q _ => ?_⟩ (by decide) (by decide) (fun i z _ hi hI => ?_) (fun z hI => ?_)) (fun b hb => Ok.some hb)
  · rw [yBB_0]
    show false = (decide (q < 5) && false)
    rw [Bool.and_false]
  · obtain ⟨z1, z2⟩ := z
    obtain ⟨hz, hB⟩ := hI
    have hz : z2 = nI i := hz
    subst hz
    dsimp only at hB ⊢
    have hs : ∀ q, yKc K a (i + 1) q = (yKc K a i q || (yBit a i && !decide (K i q = 0))) := fun q => rfl
    refine Ok.ite (fun w => absurd w (by rw [li5, nj_le (by decide) (by omega)]; omega)) (fun _ => ?_)
    refine Ok.ite (fun w => ?_) (fun w => ?_)
    · rw [yb_has a ha i hi] at w
      refine Ok.some ⟨nj_p1 _, fun q hq => ?_⟩
      show yBB z1 q = _
      rw [hs, w, Bool.false_and, Bool.or_false]
      exact hB q hq
    · rw [yb_has a ha i hi] at w
      have w : yBit a i = true := by simpa using w
      refine Ok.lt (Ok.some ⟨nj_p1 _, fun q hq => ?_⟩)
      show yBB (z1 ||| ((x >>> ((nI i * 5) &&& 31)) &&& 31)) q = _
      rw [li5, nj_mul, yBB_or, hB q hq, hs, w, Bool.true_and]
      by_cases c : q < 5
      · rw [decide_eq_true c, Bool.true_and, Bool.true_and, nj_shr (by omega) c, h _ (by omega), decide_eq_true (show i * 5 + q < 25 by omega), Bool.true_and, show (i * 5 + q) / 5 = i by omega, show (i * 5 + q) % 5 = q by omega]
      · rw [decide_eq_false c, Bool.false_and, Bool.false_and, Bool.false_or, nj_shr_hi hq (by omega)]
  · obtain ⟨z1, z2⟩ := z
    obtain ⟨hz, hB⟩ := hI
    have hz : z2 = nI 5 := hz
    subst hz
    refine Ok.ite (fun _ => Ok.some hB) (fun w => absurd (show (5 : Int32) ≤ nI 5 by decide) w)
theorem yAny_ext {n : Nat} {p q : Nat → Bool} (h : ∀ i, i < n → p i = q i) : yAny n p = yAny n q := by
  induction n with
  | zero => rfl
  | succ n ih =>
    show (yAny n p || p n) = (yAny n q || q n)
    rw [ih (fun i hi => h i (by omega)), h n (by omega)]
theorem yBit_tb (m q : Nat) : yBit m q = m.testBit q := by
  rw [Nat.testBit_eq_decide_div_mod_eq]
  unfold yBit
  by_cases h : m / 2 ^ q % 2 = 1
  · rw [decide_eq_true h, h]
    rfl
  · rw [decide_eq_false h]
    simpa using h
theorem c_meet {z : Int32} {K : Nat → Nat → Int32} {a b : Nat} (hb : b < 32) (hz : ∀ q, q < 32 → yBB z q = (decide (q < 5) && yKc K a 5 q)) : (nI b &&& z = 0) = (yCross K a b = false) := by
  refine propext ⟨fun h => ?_, fun h => ?_⟩
  · by_cases e : yCross K a b = true
    · exfalso
      obtain ⟨i, hi, h1, -⟩ := yAny_least e
      obtain ⟨j, hj, h2, -⟩ := yAny_least h1
      rw [Bool.and_eq_true, Bool.and_eq_true] at h2
      have q1 : yBB (nI b &&& z) j = true := by
        rw [yBB_and, yBB_n (by omega), ← yBit_tb, h2.2.1, Bool.true_and, hz j (by omega), decide_eq_true hj, Bool.true_and]
        exact yAny_of hi (by rw [h2.1, Bool.true_and]; exact h2.2.2)
      rw [h, yBB_0] at q1
      exact absurd q1 (by decide)
    · simpa using e
  · refine yBB_ext (fun q hq => ?_)
    rw [yBB_0, yBB_and, yBB_n hq, hz q hq]
    by_cases c : q < 5
    · rw [decide_eq_true c, Bool.true_and]
      by_cases e : (b.testBit q && yKc K a 5 q) = true
      · exfalso
        rw [Bool.and_eq_true] at e
        obtain ⟨i, hi, h1, -⟩ := yAny_least e.2
        rw [Bool.and_eq_true] at h1
        have q2 : yCross K a b = true := yAny_of hi (yAny_of c (by rw [h1.1, yBit_tb b q, e.1, Bool.true_and, Bool.true_and]; exact h1.2))
        rw [h] at q2
        exact absurd q2 (by decide)
      · simpa using e
    · rw [decide_eq_false c, Bool.false_and, Bool.and_false]
theorem c_crossKnown {x : Int32} {K : Nat → Nat → Int32} {a b : Nat} (h : yFlag x K) (ha : a < 32) (hb : b < 32) : fX0_crossKnown x (nI a) (nI b) = some (yb (yCross K a b)) := by
  unfold fX0_crossKnown
  obtain ⟨z, hz, hp⟩ := c_knownColumns h ha
  refine bto hz ?_
  have e := c_meet (b := b) hb hp
  cases hc : yCross K a b
  · rw [hc] at e
    exact if_pos (e.mpr rfl)
  · rw [hc] at e
    exact if_neg (fun w => absurd (e.mp w) (by decide))
