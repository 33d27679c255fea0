theorem c_rows {r s : Nat} (h : s ≤ 1) : fX1_rowsInAll (nI r) (nI s) = some (nI (r + s)) := by
  unfold fX1_rowsInAll
  rcases (show s = 0 ∨ s = 1 by omega) with rfl | rfl
  · rfl
  · refine (if_neg (show ¬ nI 1 = 0 by decide)).trans ?_
    rw [nj_p1]
theorem c_columns {r s : Nat} (h : s ≤ 1) : fX1_columnsInAll (nI r) (nI s) = some (nI (r + s)) := c_rows h
theorem ySum_ext {n : Nat} {f g : Nat → Int32} (h : ∀ i, i < n → f i = g i) : ySum n f = ySum n g := by
  induction n with
  | zero => rfl
  | succ n ih =>
    show ySum n f + f n = ySum n g + g n
    rw [ih (fun i hi => h i (by omega)), h n (by omega)]
def yTq (a b : Nat) (f : Nat → Int32) (G : Nat → Nat → Int32) : Prop := ∀ i j, i < a → j < b → f (i * 9 + j) = G i j
theorem yTG.q {f : Nat → Int32} {G : Nat → Nat → Int32} {a b : Nat} (h : yTG f G) (ha : a ≤ 9) (hb : b ≤ 9) : yTq a b f G := fun i j hi hj => h i j (by omega) (by omega)
theorem c_left {r k i t : Nat} {f : Nat → Int32} {G : Nat → Nat → Int32} (hf : yTq r k f G) (hr : r ≤ 9) (hk : k ≤ 9) (ht : t < k) (hi : i < 100) : fX1_leftOperand (nI r) f (nI i) (nI t) = some (yA r r G i t) := by
  unfold fX1_leftOperand yA
  by_cases c : r ≤ i
  · rw [if_pos ((nj_le (by omega) (by omega)).mpr c), if_neg (Nat.not_lt.mpr c)]
    refine bto (wl_eq (fun m => (ySum m (fun i => G i t), nI m)) 0 r (b := (ySum r (fun i => G i t), nI r)) rfl (Nat.zero_le _) (by omega) (fun m _ hm => ?_) ?_) rfl
    · refine (if_neg (fun z => by rw [nj_le (by omega) (by omega)] at z; omega)).trans ?_
      refine bto (e_get (by omega) (by omega)) ?_
      rw [hf m t (by omega) ht, nj_p1]
      rfl
    · exact if_pos (Int32.le_refl _)
  · refine (if_neg (fun z => c ((nj_le (by omega) (by omega)).mp z))).trans ?_
    rw [if_pos (show i < r by omega)]
    refine bto (e_get (by omega) (by omega)) ?_
    rw [hf i t (by omega) ht]
theorem c_top {r k i t : Nat} {f : Nat → Int32} {G : Nat → Nat → Int32} (hf : yTq k r f G) (hr : r ≤ 9) (hk : k ≤ 9) (ht : t < k) (hi : i < 100) : fX1_topOperand (nI r) f (nI t) (nI i) = some (yBt r r G t i) := by
  unfold fX1_topOperand yBt
  by_cases c : r ≤ i
  · rw [if_pos ((nj_le (by omega) (by omega)).mpr c), if_neg (Nat.not_lt.mpr c)]
    refine bto (wl_eq (fun m => (ySum m (fun i => G t i), nI m)) 0 r (b := (ySum r (fun i => G t i), nI r)) rfl (Nat.zero_le _) (by omega) (fun m _ hm => ?_) ?_) rfl
    · refine (if_neg (fun z => by rw [nj_le (by omega) (by omega)] at z; omega)).trans ?_
      refine bto (e_get (by omega) (by omega)) ?_
      rw [hf t m ht (by omega), nj_p1]
      rfl
    · exact if_pos (Int32.le_refl _)
  · refine (if_neg (fun z => c ((nj_le (by omega) (by omega)).mp z))).trans ?_
    rw [if_pos (show i < r by omega)]
    refine bto (e_get (by omega) (by omega)) ?_
    rw [hf t i ht (by omega)]
theorem c_first {g : Nat} (hg : g ≤ 2) : fX1_firstSum (nI g) = some (yFirst g) := by
  rcases (show g = 0 ∨ g = 1 ∨ g = 2 by omega) with rfl | rfl | rfl <;> rfl
theorem c_bring {r k c g i j t : Nat} {f h : Nat → Int32} {G H : Nat → Nat → Int32} {x : Int32} (hf : yTq r k f G) (hh : yTq k c h H) (hr : r ≤ 9) (hc : c ≤ 9) (hg : g ≤ 2) (hk : k ≤ 9) (ht : t < k) (hi : i < 100) (hj : j < 100) : fX1_bringIn (nI r) (nI c) (nI g) f h x (nI i) (nI t) (nI j) = some (yWith g x (yA r r G i t) (yBt c c H t j)) := by
  unfold fX1_bringIn
  refine bto (c_left hf hr hk ht hi) ?_
  refine bto (c_top hh hc hk ht hj) ?_
  rcases (show g = 0 ∨ g = 1 ∨ g = 2 by omega) with rfl | rfl | rfl <;> rfl
theorem c_plainOf {r k c g i j : Nat} {f h : Nat → Int32} {G H : Nat → Nat → Int32} (hf : yTq r k f G) (hh : yTq k c h H) (hr : r ≤ 9) (hc : c ≤ 9) (hg : g ≤ 2) (hk : k ≤ 9) (hi : i < 100) (hj : j < 100) : fX1_plainOf (nI r) (nI k) (nI c) (nI g) f h (nI i) (nI j) = some (yPlain r k c g r G c H i j) := by
  unfold fX1_plainOf yPlain
  refine bto (c_first hg) ?_
  refine bto (wl_eq (fun m => (yFold m (fun t x => yWith g x (yA r r G i t) (yBt c c H t j)) (yFirst g), nI m)) 0 k (b := (yFold k (fun t x => yWith g x (yA r r G i t) (yBt c c H t j)) (yFirst g), nI k)) rfl (Nat.zero_le _) (by omega) (fun m _ hm => ?_) ?_) rfl
  · refine (if_neg (fun z => by rw [nj_le (by omega) (by omega)] at z; omega)).trans ?_
    refine bto (c_bring hf hh hr hc hg hk hm hi hj) ?_
    rw [nj_p1]
    rfl
  · exact if_pos (Int32.le_refl _)
theorem c_plain {r k c g s : Nat} {f h : Nat → Int32} {G H : Nat → Nat → Int32} {i j : Nat} (J : yJob r k c g s) (hf : yTq r k f G) (hh : yTq k c h H) (hi : i < r + s) (hj : j < c + s) : fX6_plain (nI r) (nI k) (nI c) (nI g) (nI s) f h (nI i) (nI j) = some (yPlain r k c g r G c H i j) := by
  obtain ⟨⟨a1, a2⟩, ⟨a3, a4⟩, ⟨a5, a6⟩, a7, a8⟩ := id J
  unfold fX6_plain
  refine (if_neg (by rw [li0, nj_lt (by omega) (by decide)]; omega)).trans ?_
  refine bto (c_rows a8) ?_
  refine (if_neg (by rw [nj_le (by omega) (by omega)]; omega)).trans ?_
  refine (if_neg (by rw [li0, nj_lt (by omega) (by decide)]; omega)).trans ?_
  refine bto (c_columns a8) ?_
  refine (if_pos (by rw [nj_lt (by omega) (by omega)]; omega)).trans ?_
  exact bto (c_plainOf hf hh (by omega) (by omega) a7 (by omega) (by omega) (by omega)) rfl
