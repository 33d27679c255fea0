/-! ===== bits of a set of cells ===== -/
def yBB (x : Int32) (q : Nat) : Bool := x.toBitVec.getLsbD q
theorem yBB_ext {x y : Int32} (h : ∀ q, q < 32 → yBB x q = yBB y q) : x = y := Int32.toBitVec_inj.mp (BitVec.eq_of_getLsbD_eq h)
theorem yBB_and (x y : Int32) (q : Nat) : yBB (x &&& y) q = (yBB x q && yBB y q) := by
  unfold yBB
  rw [Int32.toBitVec_and, BitVec.getLsbD_and]
theorem yBB_or (x y : Int32) (q : Nat) : yBB (x ||| y) q = (yBB x q || yBB y q) := by
  unfold yBB
  rw [Int32.toBitVec_or, BitVec.getLsbD_or]
theorem yBB_xor (x y : Int32) (q : Nat) : yBB (x ^^^ y) q = (yBB x q ^^ yBB y q) := by
  unfold yBB
  rw [Int32.toBitVec_xor, BitVec.getLsbD_xor]
theorem yBB_m1 : ∀ q, q < 32 → yBB (-1) q = true := by decide +kernel
theorem yBB_0 (q : Nat) : yBB 0 q = false := by
  show (BitVec.ofNat 32 0).getLsbD q = false
  rw [BitVec.getLsbD_ofNat, Nat.zero_testBit, Bool.and_false]
theorem yBB_not (x : Int32) (q : Nat) (h : q < 32) : yBB (x ^^^ (-1)) q = !yBB x q := by
  rw [yBB_xor, yBB_m1 q h, Bool.xor_true]
theorem yBB_n {m q : Nat} (h : q < 32) : yBB (nI m) q = m.testBit q := by
  show (BitVec.ofNat 32 m).getLsbD q = _
  rw [BitVec.getLsbD_ofNat, decide_eq_true h, Bool.true_and]
theorem yBB_bit : ∀ p, p < 25 → ∀ q, q < 32 → yBB ((1 : Int32) <<< (nI p &&& 31)) q = decide (q = p) := by decide +kernel
/-- the number of a set whose bits are f -/
def yNum (n : Nat) (f : Nat → Bool) : Nat := yBits n f
theorem yBits_bit (n : Nat) (f : Nat → Bool) : ∀ q, q < n → (yBits n f).testBit q = f q := by
  induction n with
  | zero => intro q h; omega
  | succ n ih =>
    intro q h
    show (yBits n f + (if f n = true then 2 ^ n else 0)).testBit q = f q
    have lt := yBits_lt n f
    by_cases e : q = n
    · subst e
      by_cases hf : f q = true
      · rw [if_pos hf, Nat.add_comm, Nat.testBit_two_pow_add_eq, Nat.testBit_lt_two_pow lt, hf]
        rfl
      · rw [if_neg hf, Nat.add_zero, Nat.testBit_lt_two_pow lt]
        simpa using hf
    · by_cases hf : f n = true
      · rw [if_pos hf, Nat.add_comm, Nat.testBit_two_pow_add_gt (by omega)]
        exact ih q (by omega)
      · rw [if_neg hf, Nat.add_zero]
        exact ih q (by omega)
theorem yBB_num (x : Int32) : x = nI (yBits 32 (yBB x)) := yBB_ext (fun q h => by rw [yBB_n h, yBits_bit 32 _ q h])
/-! the count of bits, byte by byte -/
def sA (k : Nat) : Nat := match k with
  | 0 => 0
  | k + 1 => 85 + 256 * sA k
def sB (k : Nat) : Nat := match k with
  | 0 => 0
  | k + 1 => 51 + 256 * sB k
def sC (k : Nat) : Nat := match k with
  | 0 => 0
  | k + 1 => 15 + 256 * sC k
theorem and_split (x c C : Nat) (h : c < 256) : x &&& (c + 256 * C) = (x % 256 &&& c) + 256 * (x / 256 &&& C) := by
  have h1 : (x &&& (c + 256 * C)) % 2 ^ 8 = x % 2 ^ 8 &&& (c + 256 * C) % 2 ^ 8 := Nat.and_mod_two_pow
  have h2 : (x &&& (c + 256 * C)) / 2 ^ 8 = x / 2 ^ 8 &&& (c + 256 * C) / 2 ^ 8 := Nat.and_div_two_pow
  rw [show (2 : Nat) ^ 8 = 256 by decide] at h1 h2
  rw [show (c + 256 * C) % 256 = c by omega] at h1
  rw [show (c + 256 * C) / 256 = C by omega] at h2
  have := Nat.div_add_mod (x &&& (c + 256 * C)) 256
  omega
def s1 (k m : Nat) : Nat := m - (m / 2 &&& sA k)
def s2 (k y : Nat) : Nat := (y &&& sB k) + (y / 4 &&& sB k)
def s3 (k y : Nat) : Nat := y + y / 16 &&& sC k
def t1 (b : Nat) : Nat := b - (b / 2 &&& 85)
def t2 (b : Nat) : Nat := (t1 b &&& 51) + (t1 b / 4 &&& 51)
def t3 (b : Nat) : Nat := t2 b + t2 b / 16 &&& 15
theorem sb1 : ∀ b, b < 256 → ∀ r, r < 2 → (b / 2 + 128 * r) &&& 85 = b / 2 &&& 85 := by decide +kernel
theorem sb1b : ∀ b, b < 256 → (b / 2 &&& 85) ≤ b := by decide +kernel
theorem sb2 : ∀ b, b < 256 → ∀ r, r < 4 → (b / 4 + 64 * r) &&& 51 = b / 4 &&& 51 := by decide +kernel
theorem st2 : ∀ b, b < 256 → t2 b % 16 ≤ 4 ∧ t2 b / 16 ≤ 4 := by decide +kernel
theorem sb3 : ∀ b, b < 256 → ∀ r, r < 5 → (t2 b + t2 b / 16 + 16 * r) &&& 15 = t3 b := by decide +kernel
theorem s1_s (k b n : Nat) (hb : b < 256) (hn : (n / 2 &&& sA k) ≤ n) : s1 (k + 1) (b + 256 * n) = t1 b + 256 * s1 k n ∧ ((b + 256 * n) / 2 &&& sA (k + 1)) ≤ b + 256 * n := by
  have e : (b + 256 * n) / 2 &&& sA (k + 1) = (b / 2 &&& 85) + 256 * (n / 2 &&& sA k) := by
    show (b + 256 * n) / 2 &&& (85 + 256 * sA k) = _
    rw [and_split _ _ _ (by decide)]
    have e1 : (b + 256 * n) / 2 % 256 = b / 2 + 128 * (n % 2) := by omega
    have e2 : (b + 256 * n) / 2 / 256 = n / 2 := by omega
    rw [e1, e2, sb1 b hb _ (by omega)]
  have := sb1b b hb
  unfold s1 t1
  rw [e]
  omega
theorem s1_le (k n : Nat) : (n / 2 &&& sA k) ≤ n := Nat.le_trans Nat.and_le_left (Nat.div_le_self _ _)
theorem t1_lt : ∀ b, b < 256 → t1 b < 256 := by decide +kernel
theorem s2_s (k y n : Nat) (hy : y < 256) : s2 (k + 1) (y + 256 * n) = ((y &&& 51) + (y / 4 &&& 51)) + 256 * s2 k n := by
  have e : (y + 256 * n) &&& sB (k + 1) = (y &&& 51) + 256 * (n &&& sB k) := by
    show (y + 256 * n) &&& (51 + 256 * sB k) = _
    rw [and_split _ _ _ (by decide)]
    have e1 : (y + 256 * n) % 256 = y := by omega
    have e2 : (y + 256 * n) / 256 = n := by omega
    rw [e1, e2]
  have e3 : (y + 256 * n) / 4 &&& sB (k + 1) = (y / 4 &&& 51) + 256 * (n / 4 &&& sB k) := by
    show (y + 256 * n) / 4 &&& (51 + 256 * sB k) = _
    rw [and_split _ _ _ (by decide)]
    have e1 : (y + 256 * n) / 4 % 256 = y / 4 + 64 * (n % 4) := by omega
    have e2 : (y + 256 * n) / 4 / 256 = n / 4 := by omega
    rw [e1, e2, sb2 y hy _ (by omega)]
  unfold s2
  rw [e, e3]
  omega
/-- two steps, byte by byte -/
def s12 (k m : Nat) : Nat := s2 k (s1 k m)
theorem s12_s (k b n : Nat) (hb : b < 256) : s12 (k + 1) (b + 256 * n) = t2 b + 256 * s12 k n := by
  unfold s12
  rw [(s1_s k b n hb (s1_le k n)).1, s2_s _ _ _ (t1_lt b hb)]
  rfl
theorem s12_0 (n : Nat) : s12 0 n = 0 := by
  show (_ &&& 0) + (_ &&& 0) = 0
  rw [Nat.and_zero, Nat.and_zero]
theorem s12_nib (k n : Nat) : s12 k n % 16 ≤ 4 := by
  cases k with
  | zero => rw [s12_0]; decide
  | succ k =>
    have e : n = n % 256 + 256 * (n / 256) := by omega
    rw [e, s12_s k _ _ (by omega)]
    have := (st2 (n % 256) (by omega)).1
    omega
def s123 (k m : Nat) : Nat := s3 k (s12 k m)
theorem s123_s (k b n : Nat) (hb : b < 256) : s123 (k + 1) (b + 256 * n) = t3 b + 256 * s123 k n := by
  unfold s123 s3
  rw [s12_s k b n hb]
  have hn := s12_nib k n
  generalize s12 k n = q at hn
  have h2 := st2 b hb
  show t2 b + 256 * q + (t2 b + 256 * q) / 16 &&& (15 + 256 * sC k) = _
  rw [and_split _ _ _ (by decide)]
  have e1 : (t2 b + 256 * q + (t2 b + 256 * q) / 16) % 256 = t2 b + t2 b / 16 + 16 * (q % 16) := by omega
  have e2 : (t2 b + 256 * q + (t2 b + 256 * q) / 16) / 256 = q + q / 16 := by omega
  rw [e1, e2, sb3 b hb _ (by omega)]
def yP8 (b : Nat) : Nat := ySm 8 (fun i => b / 2 ^ i % 2)
theorem t3_pop : ∀ b, b < 256 → t3 b = yP8 b := by decide +kernel
theorem yP8_le : ∀ b, b < 256 → yP8 b ≤ 8 := by decide +kernel
theorem s123_4 (m : Nat) (h : m < 4294967296) : s123 4 m = yP8 (m % 256) + 256 * (yP8 (m / 256 % 256) + 256 * (yP8 (m / 65536 % 256) + 256 * yP8 (m / 16777216))) := by
  have e : m = m % 256 + 256 * (m / 256 % 256 + 256 * (m / 65536 % 256 + 256 * (m / 16777216 + 256 * 0))) := by omega
  have h0 : s123 0 0 = 0 := by decide
  calc s123 4 m = s123 4 (m % 256 + 256 * (m / 256 % 256 + 256 * (m / 65536 % 256 + 256 * (m / 16777216 + 256 * 0)))) := by rw [← e]
    _ = _ := by
      rw [s123_s 3 _ _ (by omega), s123_s 2 _ _ (by omega), s123_s 1 _ _ (by omega), s123_s 0 _ _ (by omega), h0, t3_pop _ (by omega), t3_pop _ (by omega), t3_pop _ (by omega), t3_pop _ (by omega), Nat.mul_zero, Nat.add_zero]
theorem nj_tou (m : Nat) : (nI m).toUInt32 = UInt32.ofNat m := rfl
theorem nj_ushr {m s : Nat} (hm : m < 4294967296) (hs : s < 32) : (((nI m).toUInt32 >>> ((nI s).toUInt32 &&& Int32.toUInt32 31)).toInt32) = nI (m / 2 ^ s) := by
  have e1 : (nI s).toUInt32 &&& Int32.toUInt32 31 = UInt32.ofNat s := by
    have H : ∀ s, s < 32 → (nI s).toUInt32 &&& Int32.toUInt32 31 = UInt32.ofNat s := by decide +kernel
    exact H s hs
  rw [e1, nj_tou]
  have e2 : UInt32.ofNat m >>> UInt32.ofNat s = UInt32.ofNat (m / 2 ^ s) := by
    apply UInt32.toNat_inj.mp
    rw [UInt32.toNat_shiftRight, UInt32.toNat_ofNat', UInt32.toNat_ofNat', UInt32.toNat_ofNat', Nat.mod_eq_of_lt (show m < 2 ^ 32 from hm), Nat.mod_eq_of_lt (show s < 2 ^ 32 by omega), Nat.mod_eq_of_lt (show s < 32 from hs), Nat.shiftRight_eq_div_pow, Nat.mod_eq_of_lt]
    exact Nat.lt_of_le_of_lt (Nat.div_le_self _ _) hm
  rw [e2]
  rfl
theorem nj_and (a b : Nat) : nI a &&& nI b = nI (a &&& b) := by
  apply Int32.toBitVec_inj.mp
  rw [Int32.toBitVec_and]
  show BitVec.ofNat 32 a &&& BitVec.ofNat 32 b = BitVec.ofNat 32 (a &&& b)
  rw [BitVec.ofNat_and]
def yP32 (m : Nat) : Nat := yP8 (m % 256) + yP8 (m / 256 % 256) + yP8 (m / 65536 % 256) + yP8 (m / 16777216)
theorem e_bitCount (m : Nat) (hm : m < 4294967296) : fJ6_bitCount_0f7a4 (nI m) = some (nI (yP32 m)) := by
  unfold fJ6_bitCount_0f7a4 ylet
  have hA : (1431655765 : Int32) = nI (sA 4) := by decide +kernel
  have hB : (858993459 : Int32) = nI (sB 4) := by decide +kernel
  have hC : (252645135 : Int32) = nI (sC 4) := by decide +kernel
  have h63 : (63 : Int32) = nI 63 := rfl
  have l1 : (1 : Int32) = nI 1 := rfl
  have l2 : (2 : Int32) = nI 2 := rfl
  have l4 : (4 : Int32) = nI 4 := rfl
  have l8 : (8 : Int32) = nI 8 := rfl
  have l16 : (16 : Int32) = nI 16 := rfl
  have b0 := yP8_le (m % 256) (by omega)
  have b1 := yP8_le (m / 256 % 256) (by omega)
  have b2 := yP8_le (m / 65536 % 256) (by omega)
  have b3 := yP8_le (m / 16777216) (by omega)
  have e1 : nI m - ((((nI m).toUInt32 >>> ((1 : Int32).toUInt32 &&& Int32.toUInt32 31)).toInt32) &&& 1431655765) = nI (s1 4 m) := by
    rw [l1, nj_ushr hm (by decide), hA, nj_and, show m / 2 ^ 1 = m / 2 by rw [Nat.pow_one], nj_sub (s1_le 4 m)]
    rfl
  rw [e1]
  dsimp only
  have m1 : s1 4 m < 4294967296 := Nat.lt_of_le_of_lt (Nat.sub_le _ _) hm
  have e2 : (nI (s1 4 m) &&& 858993459) + ((((nI (s1 4 m)).toUInt32 >>> ((2 : Int32).toUInt32 &&& Int32.toUInt32 31)).toInt32) &&& 858993459) = nI (s12 4 m) := by
    rw [l2, nj_ushr m1 (by decide), hB, nj_and, nj_and, nj_add, show s1 4 m / 2 ^ 2 = s1 4 m / 4 from rfl]
    rfl
  rw [e2]
  have m2 : s12 4 m < 4294967296 := by
    have a1 : (s1 4 m &&& sB 4) ≤ sB 4 := Nat.and_le_right
    have a2 : (s1 4 m / 4 &&& sB 4) ≤ sB 4 := Nat.and_le_right
    have a3 : sB 4 = 858993459 := by decide
    show (s1 4 m &&& sB 4) + (s1 4 m / 4 &&& sB 4) < 4294967296
    omega
  have e3 : (nI (s12 4 m) + (((nI (s12 4 m)).toUInt32 >>> ((4 : Int32).toUInt32 &&& Int32.toUInt32 31)).toInt32)) &&& 252645135 = nI (s123 4 m) := by
    rw [l4, nj_ushr m2 (by decide), hC, nj_add, nj_and, show s12 4 m / 2 ^ 4 = s12 4 m / 16 from rfl]
    rfl
  rw [e3, s123_4 m hm]
  generalize h3 : yP8 (m % 256) + 256 * (yP8 (m / 256 % 256) + 256 * (yP8 (m / 65536 % 256) + 256 * yP8 (m / 16777216))) = y
  have m3 : y < 4294967296 := by omega
  rw [l8, nj_ushr m3 (by decide), nj_add]
  have m4 : y + y / 2 ^ 8 < 4294967296 := by
    show y + y / 256 < _
    omega
  rw [l16, nj_ushr m4 (by decide), nj_add, h63, nj_and, show (63 : Nat) = 2 ^ 6 - 1 from rfl, Nat.and_two_pow_sub_one_eq_mod]
  apply congrArg some
  apply congrArg nI
  show (y + y / 256 + (y + y / 256) / 65536) % 64 = yP32 m
  unfold yP32
  generalize yP8 (m % 256) = c0 at h3 b0 ⊢
  generalize yP8 (m / 256 % 256) = c1 at h3 b1 ⊢
  generalize yP8 (m / 65536 % 256) = c2 at h3 b2 ⊢
  generalize yP8 (m / 16777216) = c3 at h3 b3 ⊢
  have q1 : y / 256 = c1 + 256 * (c2 + 256 * c3) := by omega
  have q2 : (y + y / 256) / 65536 = (c2 + c3) + 256 * c3 := by omega
  have q3 : y + y / 256 + (y + y / 256) / 65536 = (c0 + c1 + c2 + c3) + 64 * (4 * (c1 + c2 + c3) + 1024 * (c2 + c3) + 262144 * c3) := by omega
  rw [q3, Nat.add_mul_mod_self_left, Nat.mod_eq_of_lt (by omega)]
