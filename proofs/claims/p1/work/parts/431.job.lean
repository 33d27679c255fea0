/-! ===== the work of the reference, exactly ===== -/
theorem bto {α β : Type} {o : Option α} {r : α} {f : α → Option β} {q : Option β} (e : o = some r) (k : f r = q) : o.bind f = q := by
  rw [e]
  exact k
theorem nj_inT {a n : Nat} (h : a < n) (h2 : a < 2147483648) : (¬ (nI a < 0 ∨ n ≤ (nI a).toNatClampNeg)) = True := eq_true (nj_in h h2)
theorem yb_ite (c : Prop) [Decidable c] : (if c then some (1 : Int32) else some 0) = some (yb (decide c)) := by
  by_cases h : c
  · rw [if_pos h, decide_eq_true h]; rfl
  · rw [if_neg h, decide_eq_false h]; rfl
theorem yb_iten (c : Prop) [Decidable c] : (if c then some (0 : Int32) else some 1) = some (yb (!decide c)) := by
  by_cases h : c
  · rw [if_pos h, decide_eq_true h]; rfl
  · rw [if_neg h, decide_eq_false h]; rfl
def yA (r n : Nat) (G : Nat → Nat → Int32) (i t : Nat) : Int32 := if i < r then G i t else ySum n (fun i => G i t)
def yBt (c n : Nat) (G : Nat → Nat → Int32) (t j : Nat) : Int32 := if j < c then G t j else ySum n (fun j => G t j)
def yWith (g : Nat) (x y z : Int32) : Int32 := if g = 0 then x + y * z else if g = 1 then xn_min x (y + z) else xn_max x (xn_min y z)
def yFirst (g : Nat) : Int32 := if g = 0 then 0 else if g = 1 then 999 else -999
def yIdle (g an : Nat) (G : Nat → Nat → Int32) (bk : Nat) (H : Nat → Nat → Int32) (t : Nat) : Bool := (g == 0) && (yAll an (fun i => decide (G i t = 0)) || yAll bk (fun j => decide (H t j = 0)))
def ySk (k : Nat) (p : Nat → Bool) : Nat := if yBits k p = 2 ^ k - 1 then yBits k p - 2 ^ (k - 1) else yBits k p
def ySt (k : Nat) (p : Nat → Bool) : Nat := k - yPop (ySk k p)
theorem e_rows {r s : Nat} (h : s ≤ 1) : fX8_rows (nI r) (nI s) = some (nI (r + s)) := by
  unfold fX8_rows
  refine bto (e_oneS h) ?_
  rw [nj_add]
theorem e_columns {r s : Nat} (h : s ≤ 1) : fX8_columns (nI r) (nI s) = some (nI (r + s)) := by
  unfold fX8_columns
  refine bto (e_oneS h) ?_
  rw [nj_add]
theorem e_a {r an ak : Nat} {G : Nat → Nat → Int32} {i t : Nat} (han : an ≤ 9) (hr : r ≤ 9) (hi : i < 100) (h : i < an ∨ r ≤ i) (ht : t < ak) (ht2 : t < 100) : fX8_a (nI r) an ak G (nI i) (nI t) = some (yA r an G i t) := by
  unfold fX8_a yA
  by_cases c : r ≤ i
  · rw [if_pos ((nj_le (by omega) (by omega)).mpr c), if_neg (Nat.not_lt.mpr c)]
    refine bto (wl_eq (fun m => (ySum m (fun i => G i t), nI m)) 0 an (b := (ySum an (fun i => G i t), nI an)) rfl (Nat.zero_le _) (by omega) (fun m _ hm => ?_) ?_) rfl
    · have h1 : (an ≤ m) = False := eq_false (by omega)
      simp (disch := omega) only [nj_le, h1, if_false, nj_neg, nj_cl, false_or, not_false_eq_true, Nat.not_le, ht, if_true, ylet, nj_p1, ySum]
    · simp (disch := omega) only [nj_le, Nat.le_refl, if_true]
  · refine (if_neg (fun z => c ((nj_le (by omega) (by omega)).mp z))).trans ?_
    refine (if_pos (nj_in (by omega) (by omega))).trans ?_
    refine (if_pos (nj_in (by omega) (by omega))).trans ?_
    rw [nj_cl (by omega), nj_cl (by omega), if_pos (show i < r by omega)]
theorem e_b {r an ak : Nat} {G : Nat → Nat → Int32} {i t : Nat} (hak : ak ≤ 9) (hr : r ≤ 9) (hi : i < 100) (h : i < ak ∨ r ≤ i) (ht : t < an) (ht2 : t < 100) : fX8_b (nI r) an ak G (nI t) (nI i) = some (yBt r ak G t i) := by
  unfold fX8_b yBt
  by_cases c : r ≤ i
  · rw [if_pos ((nj_le (by omega) (by omega)).mpr c), if_neg (Nat.not_lt.mpr c), if_pos (nj_in (by omega) (by omega))]
    refine bto (wl_eq (fun m => (ySum m (fun i => G t i), nI m)) 0 ak (b := (ySum ak (fun i => G t i), nI ak)) rfl (Nat.zero_le _) (by omega) (fun m _ hm => ?_) ?_) rfl
    · have h1 : (ak ≤ m) = False := eq_false (by omega)
      simp (disch := omega) only [nj_le, h1, if_false, nj_neg, nj_cl, false_or, not_false_eq_true, Nat.not_le, ht, if_true, ylet, nj_p1, ySum]
    · simp (disch := omega) only [nj_le, Nat.le_refl, if_true]
  · refine (if_neg (fun z => c ((nj_le (by omega) (by omega)).mp z))).trans ?_
    refine (if_pos (nj_in (by omega) (by omega))).trans ?_
    refine (if_pos (nj_in (by omega) (by omega))).trans ?_
    rw [nj_cl (by omega), nj_cl (by omega), if_pos (show i < r by omega)]
theorem e_isIdle {g an ak bn bk t : Nat} {G H : Nat → Nat → Int32} (hg : g ≤ 2) (han : an ≤ 9) (hbk : bk ≤ 9) (ht : t < 100) (hta : t < ak) (htb : t < bn) : fX8_isIdle (nI g) an ak G bn bk H (nI t) = some (yb (yIdle g an G bk H t)) := by
  unfold fX8_isIdle yIdle
  refine bto (wl_eq (fun m => (yb (yAll m (fun i => decide (G i t = 0))), nI m)) 0 an (b := (yb (yAll an (fun i => decide (G i t = 0))), nI an)) rfl (Nat.zero_le _) (by omega) (fun m _ hm => ?_) ?_) ?_
  · have h1 : (an ≤ m) = False := eq_false (by omega)
    simp (disch := omega) only [nj_le, h1, if_false, nj_neg, nj_cl, false_or, not_false_eq_true, Nat.not_le, hta, if_true, nj_p1, yAll, yb_ite, Option.bind_some, yb_and]
  · simp (disch := omega) only [nj_le, Nat.le_refl, if_true]
  rw [if_pos (nj_in htb (by omega))]
  refine bto (wl_eq (fun m => (yb (yAll m (fun i => decide (H t i = 0))), nI m)) 0 bk (b := (yb (yAll bk (fun i => decide (H t i = 0))), nI bk)) rfl (Nat.zero_le _) (by omega) (fun m _ hm => ?_) ?_) ?_
  · have h1 : (bk ≤ m) = False := eq_false (by omega)
    simp (disch := omega) only [nj_le, h1, if_false, nj_neg, nj_cl, false_or, not_false_eq_true, Nat.not_le, htb, if_true, nj_p1, yAll, yb_ite, Option.bind_some, yb_and]
  · simp (disch := omega) only [nj_le, Nat.le_refl, if_true]
  rcases (show g = 0 ∨ g = 1 ∨ g = 2 by omega) with rfl | rfl | rfl
  · cases yAll an (fun i => decide (G i t = 0)) <;> cases yAll bk (fun i => decide (H t i = 0)) <;> rfl
  · rfl
  · rfl
theorem sk_or1 : ∀ i, i < 6 → ∀ m, m < 2 ^ i → nI m ||| (nI 1 <<< (nI i &&& 31)) = nI (m + 2 ^ i) := by decide +kernel
theorem sk_or0 : ∀ i, i < 6 → ∀ m, m < 2 ^ i → nI m ||| (nI 0 <<< (nI i &&& 31)) = nI m := by decide +kernel
theorem sk_all : ∀ k, k < 7 → ((1 : Int32) <<< (nI k &&& 31)) - 1 = nI (2 ^ k - 1) := by decide +kernel
theorem sk_fin : ∀ k, k < 7 → 1 ≤ k → nI (2 ^ k - 1) &&& (((1 : Int32) <<< ((nI k - 1) &&& 31)) ^^^ (-1)) = nI (2 ^ k - 1 - 2 ^ (k - 1)) := by decide +kernel
theorem sk_p2 : ∀ k, k < 7 → 2 ^ k ≤ 64 := by decide +kernel
theorem sk_pop : ∀ k, k < 7 → 1 ≤ k → ∀ m, m < 2 ^ k → yPop (if m = 2 ^ k - 1 then m - 2 ^ (k - 1) else m) < k := by decide +kernel
theorem ySk_lt {k : Nat} (p : Nat → Bool) : ySk k p < 2 ^ k := by
  unfold ySk
  have := yBits_lt k p
  by_cases h : yBits k p = 2 ^ k - 1
  · rw [if_pos h]; exact Nat.lt_of_le_of_lt (Nat.sub_le _ _) this
  · rw [if_neg h]; exact this
theorem ySt_of {k : Nat} (p : Nat → Bool) (h : k < 7) (h1 : 1 ≤ k) : 1 ≤ ySt k p ∧ ySt k p ≤ k := by
  unfold ySt ySk
  have := sk_pop k h h1 (yBits k p) (yBits_lt k p)
  omega
theorem e_skipped {g k an ak bn bk : Nat} {G H : Nat → Nat → Int32} (hg : g ≤ 2) (han : an ≤ 9) (hbk : bk ≤ 9) (hk : 1 ≤ k) (hk6 : k ≤ 6) (hka : k ≤ ak) (hkb : k ≤ bn) : fX8_skipped (nI k) (nI g) an ak G bn bk H = some (nI (ySk k (yIdle g an G bk H))) := by
  unfold fX8_skipped
  refine bto (wl_eq (fun m => (nI (yBits m (yIdle g an G bk H)), nI m)) 0 k (b := (nI (yBits k (yIdle g an G bk H)), nI k)) rfl (Nat.zero_le _) (by omega) (fun m _ hm => ?_) ?_) ?_
  · have h1 : (k ≤ m) = False := eq_false (by omega)
    simp (disch := omega) only [nj_le, h1, if_false, e_isIdle, e_one, Option.bind_some, nj_p1]
    have hb := yBits_lt m (yIdle g an G bk H)
    show some (Sum.inl (nI (yBits m (yIdle g an G bk H)) ||| (yb (yIdle g an G bk H m) <<< (nI m &&& 31)), nI (m + 1))) = some (Sum.inl (nI (yBits m (yIdle g an G bk H) + (if yIdle g an G bk H m = true then 2 ^ m else 0)), nI (m + 1)))
    cases yIdle g an G bk H m
    · rw [yb_f, sk_or0 m (by omega) _ hb]; rfl
    · rw [yb_t, sk_or1 m (by omega) _ hb]; rfl
  · simp (disch := omega) only [nj_le, Nat.le_refl, if_true]
  have hb := yBits_lt k (yIdle g an G bk H)
  have h2 := sk_p2 k (by omega)
  show (if nI (yBits k (yIdle g an G bk H)) = ((1 : Int32) <<< (nI k &&& 31)) - 1 then some (nI (yBits k (yIdle g an G bk H)) &&& (((1 : Int32) <<< ((nI k - 1) &&& 31)) ^^^ (-1))) else some (nI (yBits k (yIdle g an G bk H)))) = some (nI (ySk k (yIdle g an G bk H)))
  rw [sk_all k (by omega)]
  unfold ySk
  by_cases h : yBits k (yIdle g an G bk H) = 2 ^ k - 1
  · rw [if_pos (congrArg nI h), if_pos h, h, sk_fin k (by omega) hk]
  · rw [if_neg (fun z => h ((nj_eq (by omega) (by omega)).mp z)), if_neg h]
theorem e_steps {g k an ak bn bk : Nat} {G H : Nat → Nat → Int32} (hg : g ≤ 2) (han : an ≤ 9) (hbk : bk ≤ 9) (hk : 1 ≤ k) (hk6 : k ≤ 6) (hka : k ≤ ak) (hkb : k ≤ bn) : fX8_steps (nI k) (nI g) an ak G bn bk H = some (nI (ySt k (yIdle g an G bk H))) := by
  unfold fX8_steps
  have h1 := ySk_lt (k := k) (yIdle g an G bk H)
  have h2 := sk_p2 k (by omega)
  refine bto (e_skipped hg han hbk hk hk6 hka hkb) ?_
  refine bto (e_pop _ (by omega)) ?_
  have h3 := ySt_of (k := k) (yIdle g an G bk H) (by omega) hk
  unfold ySt at h3
  rw [nj_sub (by omega)]
  rfl
theorem e_first {g : Nat} (hg : g ≤ 2) : fX8_first (nI g) = some (yFirst g) := by
  rcases (show g = 0 ∨ g = 1 ∨ g = 2 by omega) with rfl | rfl | rfl <;> rfl
theorem e_with {g : Nat} (hg : g ≤ 2) (x y z : Int32) : fX8_with (nI g) x y z = some (yWith g x y z) := by
  rcases (show g = 0 ∨ g = 1 ∨ g = 2 by omega) with rfl | rfl | rfl <;> rfl
def yPlain (r k c g an : Nat) (G : Nat → Nat → Int32) (bk : Nat) (H : Nat → Nat → Int32) (i j : Nat) : Int32 := yFold k (fun t x => yWith g x (yA r an G i t) (yBt c bk H t j)) (yFirst g)
theorem e_plain {r k c g an ak bn bk i j : Nat} {G H : Nat → Nat → Int32} (hg : g ≤ 2) (han : an ≤ 9) (hbk : bk ≤ 9) (hr : r ≤ 9) (hc : c ≤ 9) (hk6 : k ≤ 6) (hka : k ≤ ak) (hkb : k ≤ bn) (hi : i < 100) (hj : j < 100) (hi2 : i < an ∨ r ≤ i) (hj2 : j < bk ∨ c ≤ j) : fX8_plain (nI r) (nI k) (nI c) (nI g) an ak G bn bk H (nI i) (nI j) = some (yPlain r k c g an G bk H i j) := by
  unfold fX8_plain yPlain
  refine bto (e_first hg) ?_
  refine bto (wl_eq (fun m => (yFold m (fun t x => yWith g x (yA r an G i t) (yBt c bk H t j)) (yFirst g), nI m)) 0 k (b := (yFold k (fun t x => yWith g x (yA r an G i t) (yBt c bk H t j)) (yFirst g), nI k)) rfl (Nat.zero_le _) (by omega) (fun m _ hm => ?_) ?_) rfl
  · have h1 : (k ≤ m) = False := eq_false (by omega)
    simp (disch := omega) only [nj_le, h1, if_false, e_a, e_b, e_with, Option.bind_some, nj_p1, yFold]
  · simp (disch := omega) only [nj_le, Nat.le_refl, if_true]
