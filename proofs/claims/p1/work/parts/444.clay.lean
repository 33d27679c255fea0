/-! ===== layouts in the class ===== -/
def yBf (R C h w st : Nat) : Nat := R * yTl C w + C * yTl R h + yTl R h * yTl C w * (st - 1)
theorem ySz_sum {R h : Nat} (h1 : 1 ≤ h) (n : Nat) (hn : n ≤ yTl R h) : ySm n (ySz R h) = min R (n * h) := by
  induction n with
  | zero =>
    show 0 = min R (0 * h)
    rw [Nat.zero_mul]
    omega
  | succ n ih =>
    show ySm n (ySz R h) + ySz R h n = min R ((n + 1) * h)
    have lt := yTl_lt h1 (show n < yTl R h by omega)
    rw [ih (by omega), Nat.succ_mul]
    unfold ySz
    omega
theorem yTl_cov {R h : Nat} (h1 : 1 ≤ h) : R ≤ yTl R h * h := by
  have e := Nat.div_add_mod (R + h - 1) h
  have e2 := Nat.mod_lt (R + h - 1) h1
  unfold yTl
  rw [Nat.mul_comm] at e
  omega
theorem ySz_all {R h : Nat} (h1 : 1 ≤ h) : ySm (yTl R h) (ySz R h) = R := by
  rw [ySz_sum h1 _ (Nat.le_refl _)]
  have := yTl_cov (R := R) h1
  omega
theorem ySm_const (n a : Nat) : ySm n (fun _ => a) = n * a := by
  induction n with
  | zero => rw [Nat.zero_mul]; rfl
  | succ n ih =>
    show ySm n (fun _ => a) + a = (n + 1) * a
    rw [ih, Nat.succ_mul]
theorem ySm_mul (n a : Nat) (f : Nat → Nat) : ySm n (fun i => a * f i) = a * ySm n f := by
  induction n with
  | zero => rfl
  | succ n ih =>
    show ySm n (fun i => a * f i) + a * f n = a * (ySm n f + f n)
    rw [ih, Nat.mul_add]
theorem yBf_eq {R C h w st : Nat} (h1 : 1 ≤ h) (w1 : 1 ≤ w) (s1 : 1 ≤ st) : yBeats R C h w st = yBf R C h w st := by
  have row : ∀ i, i < yTl R h → yRowB R C h w st i = yTl C w * ySz R h i + (C + yTl C w * (st - 1)) := fun i hi => by
    unfold yRowB
    rw [ySm_ext (g := fun j => (ySz R h i + (st - 1)) + ySz C w j) (fun j hj => by omega), ySm_add, ySm_const, ySz_all w1, Nat.mul_add]
    omega
  unfold yBeats yBf
  rw [ySm_ext row, ySm_add, ySm_mul, ySm_const, ySz_all h1, Nat.mul_add, Nat.mul_comm (yTl C w) R, Nat.mul_comm (yTl R h) C, ← Nat.mul_assoc]
  omega
theorem c_pieces {R h : Nat} (hR : R < 100) (hh : h < 100) : fX2_countPieces (nI R) (nI h) = some (nI (yTl R h)) := by
  unfold fX2_countPieces
  by_cases c : 1 ≤ h
  · refine (if_pos (by rw [li1, nj_le (by decide) (by omega)]; exact c)).trans ?_
    exact e_tiles hR hh c
  · refine (if_neg (fun z => by rw [li1, nj_le (by decide) (by omega)] at z; exact c z)).trans ?_
    have : h = 0 := by omega
    subst this
    unfold yTl
    rw [Nat.div_zero]
    rfl
def yLy (R C st a b : Nat) : Int32 × Int32 × Int32 × Int32 × Int32 × Int32 × Int32 := (nI a, nI b, nI (yPop a), nI (yPop b), nI (yTl R (yPop a)), nI (yTl C (yPop b)), nI (yBf R C (yPop a) (yPop b) st))
theorem c_lay {R C st a b : Nat} (hR : R < 100) (hC : C < 100) (hst : 1 ≤ st) (ha : a < 32) (hb : b < 32) : fX2_lay (nI R) (nI C) (nI st) (nI a) (nI b) = some (yLy R C st a b) := by
  have q1 := yPop_le a ha
  have q2 := yPop_le b hb
  unfold fX2_lay
  refine bto (e_pop a (by omega)) ?_
  refine bto (e_pop b (by omega)) ?_
  refine bto (c_pieces hR (by omega)) ?_
  refine bto (c_pieces hC (by omega)) ?_
  unfold fX2_countEdges fX2_countTiles
  refine bto rfl ?_
  refine bto rfl ?_
  rw [nj_mul, nj_mul, nj_mul, nj_add, li1, nj_sub hst, nj_mul, nj_add]
  rfl
theorem c_isLeft {r k t : Nat} {f : Nat → Int32} {G : Nat → Nat → Int32} (hf : yTq r k f G) (hr : r ≤ 9) (hk : k ≤ 9) (ht : t < k) : fX1_isLeftNought (nI r) f (nI t) = some (yb (yAll r (fun i => decide (G i t = 0)))) := by
  unfold fX1_isLeftNought
  have na : ∀ n, yAny n (fun i => !decide (G i t = 0)) = !yAll n (fun i => decide (G i t = 0)) := fun n => by
    induction n with
    | zero => rfl
    | succ n ih =>
      show (yAny n _ || !decide (G n t = 0)) = !(yAll n _ && decide (G n t = 0))
      rw [ih, Bool.not_and]
  refine bto (wl_any (b1 := .inr 0) (b2 := .inl (nI r)) (fun i => nI i) r (fun i => !decide (G i t = 0)) rfl (by omega) (fun i hi hp => ?_) (fun i hi hp => ?_) ?_) ?_
  · refine (if_neg (fun z => by rw [nj_le (by omega) (by omega)] at z; omega)).trans ?_
    refine bto (e_get (by omega) (by omega)) ?_
    rw [hf i t (by omega) ht]
    refine (if_pos (by simpa using hp)).trans ?_
    rw [nj_p1]
  · refine (if_neg (fun z => by rw [nj_le (by omega) (by omega)] at z; omega)).trans ?_
    refine bto (e_get (by omega) (by omega)) ?_
    rw [hf i t (by omega) ht]
    exact if_neg (by simpa using hp)
  · exact if_pos (Int32.le_refl _)
  rw [na]
  cases yAll r (fun i => decide (G i t = 0)) <;> rfl
theorem c_isTop {r k t : Nat} {f : Nat → Int32} {G : Nat → Nat → Int32} (hf : yTq k r f G) (hr : r ≤ 9) (hk : k ≤ 9) (ht : t < k) : fX1_isTopNought (nI r) f (nI t) = some (yb (yAll r (fun i => decide (G t i = 0)))) := by
  unfold fX1_isTopNought
  have na : ∀ n, yAny n (fun i => !decide (G t i = 0)) = !yAll n (fun i => decide (G t i = 0)) := fun n => by
    induction n with
    | zero => rfl
    | succ n ih =>
      show (yAny n _ || !decide (G t n = 0)) = !(yAll n _ && decide (G t n = 0))
      rw [ih, Bool.not_and]
  refine bto (wl_any (b1 := .inr 0) (b2 := .inl (nI r)) (fun i => nI i) r (fun i => !decide (G t i = 0)) rfl (by omega) (fun i hi hp => ?_) (fun i hi hp => ?_) ?_) ?_
  · refine (if_neg (fun z => by rw [nj_le (by omega) (by omega)] at z; omega)).trans ?_
    refine bto (e_get (by omega) (by omega)) ?_
    rw [hf t i ht (by omega)]
    refine (if_pos (by simpa using hp)).trans ?_
    rw [nj_p1]
  · refine (if_neg (fun z => by rw [nj_le (by omega) (by omega)] at z; omega)).trans ?_
    refine bto (e_get (by omega) (by omega)) ?_
    rw [hf t i ht (by omega)]
    exact if_neg (by simpa using hp)
  · exact if_pos (Int32.le_refl _)
  rw [na]
  cases yAll r (fun i => decide (G t i = 0)) <;> rfl
theorem yBits_none (n : Nat) (p : Nat → Bool) (h : ∀ i, p i = false) : yBits n p = 0 := by
  induction n with
  | zero => rfl
  | succ n ih =>
    show yBits n p + (if p n = true then 2 ^ n else 0) = 0
    rw [ih, h n]
    rfl
theorem c_skipped {r k c g s : Nat} {f h : Nat → Int32} {G H : Nat → Nat → Int32} (J : yJob r k c g s) (hf : yTq r k f G) (hh : yTq k c h H) : fX1_skippedSet (nI r) (nI k) (nI c) (nI g) f h = some (nI (ySk k (yIdle g r G c H))) := by
  obtain ⟨⟨a1, a2⟩, ⟨a3, a4⟩, ⟨a5, a6⟩, a7, a8⟩ := id J
  have h2 := sk_p2 k (by omega)
  unfold fX1_skippedSet
  by_cases hg : g = 0
  · subst hg
    refine (if_pos rfl).trans ?_
    refine bto (wl_eq (fun m => (nI (yBits m (yIdle 0 r G c H)), nI m)) 0 k (b := (nI (yBits k (yIdle 0 r G c H)), nI k)) rfl (Nat.zero_le _) (by omega) (fun m _ hm => ?_) ?_) ?_
    · refine (if_neg (fun z => by rw [nj_le (by omega) (by omega)] at z; omega)).trans ?_
      have hb := yBits_lt m (yIdle 0 r G c H)
      have hI : yIdle 0 r G c H m = (yAll r (fun i => decide (G i m = 0)) || yAll c (fun j => decide (H m j = 0))) := rfl
      have hs : yBits (m + 1) (yIdle 0 r G c H) = yBits m (yIdle 0 r G c H) + (if yIdle 0 r G c H m = true then 2 ^ m else 0) := rfl
      rw [hs, hI]
      refine bto (c_isLeft hf (by omega) (by omega) hm) ?_
      dsimp only
      cases yAll r (fun i => decide (G i m = 0))
      · refine (if_pos (show yb false = 0 by decide)).trans ?_
        refine bto (c_isTop hh (by omega) (by omega) hm) ?_
        cases yAll c (fun j => decide (H m j = 0))
        · refine (if_pos (show yb false = 0 by decide)).trans ?_
          rw [nj_p1]
          rfl
        · refine (if_neg (show ¬ yb true = 0 by decide)).trans ?_
          unfold ylet
          rw [nj_p1, li1, sk_or1 m (by omega) _ hb]
          rfl
      · refine (if_neg (show ¬ yb true = 0 by decide)).trans ?_
        unfold ylet
        rw [nj_p1, li1, sk_or1 m (by omega) _ hb]
        rfl
    · exact if_pos (Int32.le_refl _)
    have hb := yBits_lt k (yIdle 0 r G c H)
    dsimp only
    rw [sk_all k (by omega)]
    unfold ySk
    by_cases hq : yBits k (yIdle 0 r G c H) = 2 ^ k - 1
    · rw [if_pos (congrArg nI hq), if_pos hq, hq, sk_fin k (by omega) a3]
    · rw [if_neg (fun z => hq ((nj_eq (by omega) (by omega)).mp z)), if_neg hq]
  · refine (if_neg (fun z => hg (by rw [li0, nj_eq (by omega) (by decide)] at z; exact z))).trans ?_
    have hI : ∀ i, yIdle g r G c H i = false := fun i => by
      unfold yIdle
      rw [beq_false_of_ne hg, Bool.false_and]
    unfold ySk
    rw [yBits_none k _ hI, if_neg]
    · rfl
    · have : 2 ^ 1 ≤ 2 ^ k := Nat.pow_le_pow_right (by decide) a3
      omega
theorem c_steps {r k c g s : Nat} {f h : Nat → Int32} {G H : Nat → Nat → Int32} (J : yJob r k c g s) (hf : yTq r k f G) (hh : yTq k c h H) : fX1_countSteps (nI r) (nI k) (nI c) (nI g) f h = some (nI (yJst r k c g G H)) := by
  obtain ⟨⟨a1, a2⟩, ⟨a3, a4⟩, ⟨a5, a6⟩, a7, a8⟩ := id J
  have h1 := ySk_lt (k := k) (yIdle g r G c H)
  have h2 := sk_p2 k (by omega)
  have h3 := yJst_of G H J
  unfold yJst ySt at h3
  unfold fX1_countSteps
  refine bto (c_skipped J hf hh) ?_
  refine bto (e_pop _ (by omega)) ?_
  rw [nj_sub (by omega)]
  rfl
theorem c_measure {r k c g s : Nat} {f h : Nat → Int32} {G H : Nat → Nat → Int32} (J : yJob r k c g s) (hf : yTq r k f G) (hh : yTq k c h H) : fX2_measure (nI r) (nI k) (nI c) (nI g) (nI s) f h = some (nI (r + s), nI (c + s), nI (yJst r k c g G H)) := by
  obtain ⟨⟨a1, a2⟩, ⟨a3, a4⟩, ⟨a5, a6⟩, a7, a8⟩ := id J
  unfold fX2_measure
  refine bto (c_rows a8) ?_
  refine bto (c_columns a8) ?_
  exact bto (c_steps J hf hh) rfl
theorem c_empty {a b : Nat} (ha : a < 32) (hb : b < 32) : fX2_isEmpty (nI a) (nI b) = some (yb (a == 0 || b == 0)) := by
  unfold fX2_isEmpty
  by_cases h : a = 0
  · subst h
    rfl
  · refine (if_neg (fun z => h (by rw [li0, nj_eq (by omega) (by decide)] at z; exact z))).trans ?_
    rw [beq_false_of_ne h, Bool.false_or]
    by_cases h2 : b = 0
    · subst h2
      rfl
    · refine (if_neg (fun z => h2 (by rw [li0, nj_eq (by omega) (by decide)] at z; exact z))).trans ?_
      rw [beq_false_of_ne h2]
      rfl
theorem c_better {h w b h2 w2 b2 : Nat} (e1 : h * w ≤ 25) (e2 : h2 * w2 ≤ 25) (l1 : b < 2000) (l2 : b2 < 2000) : fX2_isBetterThan (nI h) (nI w) (nI b) (nI h2) (nI w2) (nI b2) = some (yb (decide (100 * b + h * w < 100 * b2 + h2 * w2))) := by
  unfold fX2_isBetterThan
  by_cases c : b = b2
  · subst c
    refine (if_pos rfl).trans ?_
    rw [nj_mul, nj_mul]
    by_cases d : h2 * w2 ≤ h * w
    · refine (if_pos ((nj_le (by omega) (by omega)).mpr d)).trans ?_
      rw [decide_eq_false (by omega)]
      rfl
    · refine (if_neg (fun z => d ((nj_le (by omega) (by omega)).mp z))).trans ?_
      rw [decide_eq_true (by omega)]
      rfl
  · refine (if_neg (fun z => c ((nj_eq (by omega) (by omega)).mp z))).trans ?_
    by_cases d : b2 ≤ b
    · refine (if_pos ((nj_le (by omega) (by omega)).mpr d)).trans ?_
      rw [decide_eq_false (by omega)]
      rfl
    · refine (if_neg (fun z => d ((nj_le (by omega) (by omega)).mp z))).trans ?_
      rw [decide_eq_true (by omega)]
      rfl
def yGo (R C st : Nat) (z : Nat × Nat × Nat) : Prop := (z.2.1 = 0 ∧ z.2.2 = 0) ∨ (1 ≤ z.2.1 ∧ z.2.1 < 32 ∧ 1 ≤ z.2.2 ∧ z.2.2 < 32 ∧ z.1 = yKey R C st z.2.1 z.2.2)
theorem yGo_step {R C st a b : Nat} {x : Nat → Nat → Bool} {z : Nat × Nat × Nat} (h : yGo R C st z) (ha : 1 ≤ a) (ha2 : a < 32) (hb : 1 ≤ b) (hb2 : b < 32) : yGo R C st (yStep x (yKey R C st) a b z) := by
  unfold yStep
  by_cases c : x a b = true
  · rw [if_pos c]
    exact h
  · rw [if_neg c]
    by_cases d : z.2.1 = 0 ∨ yKey R C st a b < z.1
    · rw [if_pos d]
      exact Or.inr ⟨ha, ha2, hb, hb2, rfl⟩
    · rw [if_neg d]
      exact h
theorem yPops {a : Nat} (h1 : 1 ≤ a) (h : a < 32) : 1 ≤ yPop a ∧ yPop a ≤ 5 := ⟨yPop_pos a h h1, yPop_le a h⟩
theorem c_keep {R C st a b : Nat} {x : Nat → Nat → Bool} {z : Nat × Nat × Nat} {y3 y4 y5 y6 y7 y8 y9 : Int32} (hR : R ≤ 9) (hC : C ≤ 9) (hs1 : 1 ≤ st) (hs6 : st ≤ 6) (h : yGo R C st z) (hy : (y3, y4, y5, y6, y7, y8, y9) = yLy R C st z.2.1 z.2.2) (ha : 1 ≤ a) (ha2 : a < 32) (hb : 1 ≤ b) (hb2 : b < 32) (hx : x a b = false) : fX6_keepIfBetter (nI R) (nI C) (nI st) y3 y4 y5 y6 y7 y8 y9 (nI a) (nI b) (nI (yPop a)) (nI (yPop b)) (nI (yBf R C (yPop a) (yPop b) st)) = some (yLy R C st (yStep x (yKey R C st) a b z).2.1 (yStep x (yKey R C st) a b z).2.2) := by
  unfold yLy at hy
  cases hy
  have p1 := yPops ha ha2
  have p2 := yPops hb hb2
  unfold fX6_keepIfBetter yStep
  rw [if_neg (show ¬ x a b = true by rw [hx]; decide)]
  rcases h with ⟨z1, z2⟩ | ⟨z1, z2, z3, z4, z5⟩
  · rw [if_pos (Or.inl z1), z1, z2]
    refine bto (c_empty (by decide) (by decide)) ?_
    refine (if_neg (show ¬ yb (0 == 0 || 0 == 0) = 0 by decide)).trans ?_
    exact bto (c_lay (by omega) (by omega) hs1 ha2 hb2) rfl
  · have q1 := yPops z1 z2
    have q2 := yPops z3 z4
    refine bto (c_empty z2 z4) ?_
    rw [beq_false_of_ne (show z.2.1 ≠ 0 by omega), beq_false_of_ne (show z.2.2 ≠ 0 by omega)]
    refine (if_pos (show yb (false || false) = 0 by decide)).trans ?_
    have m1 : yPop a * yPop b ≤ 5 * 5 := Nat.mul_le_mul p1.2 p2.2
    have m2 : yPop z.2.1 * yPop z.2.2 ≤ 5 * 5 := Nat.mul_le_mul q1.2 q2.2
    have b1 := yBeats_le (st := st) hR hC p1.1 p1.2 p2.1 p2.2 hs6
    have b2 := yBeats_le (st := st) hR hC q1.1 q1.2 q2.1 q2.2 hs6
    have f1 := yBf_eq (R := R) (C := C) p1.1 p2.1 hs1
    have f2 := yBf_eq (R := R) (C := C) q1.1 q2.1 hs1
    refine bto (c_better (by omega) (by omega) (by omega) (by omega)) ?_
    have k1 : 100 * yBf R C (yPop a) (yPop b) st + yPop a * yPop b = yKey R C st a b := by
      unfold yKey
      rw [f1]
    have k2 : 100 * yBf R C (yPop z.2.1) (yPop z.2.2) st + yPop z.2.1 * yPop z.2.2 = z.1 := by
      rw [z5]
      unfold yKey
      rw [f2]
    rw [k1, k2]
    by_cases d : yKey R C st a b < z.1
    · rw [decide_eq_true d, if_pos (Or.inr d)]
      refine (if_neg (show ¬ yb true = 0 by decide)).trans ?_
      exact bto (c_lay (by omega) (by omega) hs1 ha2 hb2) rfl
    · rw [decide_eq_false d, if_neg (show ¬ (z.2.1 = 0 ∨ yKey R C st a b < z.1) by omega)]
      exact if_pos (show yb false = 0 by decide)
abbrev yFS : Type := Int32 × Int32 × Int32 × Int32 × Int32 × Int32 × Int32 × Int32 × Int32 × Int32 × Int32 × Int32 × Int32 × Int32 × Int32
theorem c_findBest {r k c g s : Nat} {f h : Nat → Int32} {G H K : Nat → Nat → Int32} {wk x3 x4 x5 x6 x7 x8 x9 : Int32} (J : yJob r k c g s) (hf : yTq r k f G) (hh : yTq k c h H) (hK : yFlag wk K) : Ok (fX6_findBest (nI r) (nI k) (nI c) (nI g) (nI s) f h wk x3 x4 x5 x6 x7 x8 x9) (fun o => yGo (r + s) (c + s) (yJst r k c g G H) (yJb r k c g s G H K) ∧ o.1 = nI (r + s) ∧ o.2.1 = nI (c + s) ∧ o.2.2.1 = nI (yJst r k c g G H) ∧ (o.2.2.2.1, o.2.2.2.2.1, o.2.2.2.2.2.1, o.2.2.2.2.2.2.1, o.2.2.2.2.2.2.2.1, o.2.2.2.2.2.2.2.2.1, o.2.2.2.2.2.2.2.2.2.1) = yLy (r + s) (c + s) (yJst r k c g G H) (yJb r k c g s G H K).2.1 (yJb r k c g s G H K).2.2) := by
  obtain ⟨⟨a1, a2⟩, ⟨a3, a4⟩, ⟨a5, a6⟩, a7, a8⟩ := id J
  have st := yJst_of G H J
  have hm := c_measure J hf hh
  unfold fX6_findBest yJb
  generalize yJst r k c g G H = q at st hm ⊢
  have c0 := c_lay (R := r + s) (C := c + s) (st := q) (a := 0) (b := 0) (by omega) (by omega) st.1 (by decide) (by decide)
  have hR9 : r + s ≤ 9 := by omega
  have hC9 : c + s ≤ 9 := by omega
  have hq6 : q ≤ 6 := by omega
  generalize r + s = R at hm c0 hR9 ⊢
  generalize c + s = C at hm c0 hC9 ⊢
  unfold yBest
  refine Ok.to hm ?_
  refine Ok.to c0 ?_
  refine Ok.to hm ?_
  refine Ok.bind (Ok.for (P := fun (b : yFS) => yGo R C q (yBall (yCross K) (yKey R C q) 31) ∧ (b.2.1, b.2.2.1, b.2.2.2.1, b.2.2.2.2.1, b.2.2.2.2.2.1, b.2.2.2.2.2.2.1, b.2.2.2.2.2.2.2.1) = yLy R C q (yBall (yCross K) (yKey R C q) 31).2.1 (yBall (yCross K) (yKey R C q) 31).2.2) (fun (i : Nat) (z : yFS) => z.1 = nI (i + 1) ∧ yGo R C q (yBall (yCross K) (yKey R C q) i) ∧ (z.2.1, z.2.2.1, z.2.2.2.1, z.2.2.2.2.1, z.2.2.2.2.2.1, z.2.2.2.2.2.2.1, z.2.2.2.2.2.2.2.1) = yLy R C q (yBall (yCross K) (yKey R C q) i).2.1 (yBall (yCross K) (yKey R C q) i).2.2) 0 31 ⟨rfl, Or.inl ⟨rfl, rfl⟩, rfl⟩ (by decide) (by decide) (fun i z _ hi hI => ?_) (fun z hI => ?_)) (fun b hb => ?_)
  · obtain ⟨cnt, y3, y4, y5, y6, y7, y8, y9, t3, t4, t5, t6, t7, t8, t9⟩ := z
    obtain ⟨hq, hgo, hy⟩ := hI
    have hq : cnt = nI (i + 1) := hq
    subst hq
    have hB : yBall (yCross K) (yKey R C q) (i + 1) = yBrow (yCross K) (yKey R C q) (i + 1) 31 (yBall (yCross K) (yKey R C q) i) := rfl
    rw [hB]
    generalize yBall (yCross K) (yKey R C q) i = w at hgo hy ⊢
    dsimp only at hy ⊢
    refine Ok.ite (fun z => absurd z (by rw [show (31 : Int32) = nI 31 from rfl, nj_lt (by decide) (by omega)]; omega)) (fun _ => ?_)
    refine Ok.bind (c_knownColumns hK (a := i + 1) (by omega)) (fun kc hkc => ?_)
    refine Ok.bind (Ok.for (P := fun (b : yFS) => yGo R C q (yBrow (yCross K) (yKey R C q) (i + 1) 31 w) ∧ (b.2.1, b.2.2.1, b.2.2.2.1, b.2.2.2.2.1, b.2.2.2.2.2.1, b.2.2.2.2.2.2.1, b.2.2.2.2.2.2.2.1) = yLy R C q (yBrow (yCross K) (yKey R C q) (i + 1) 31 w).2.1 (yBrow (yCross K) (yKey R C q) (i + 1) 31 w).2.2) (fun (j : Nat) (z : yFS) => z.1 = nI (j + 1) ∧ yGo R C q (yBrow (yCross K) (yKey R C q) (i + 1) j w) ∧ (z.2.1, z.2.2.1, z.2.2.2.1, z.2.2.2.2.1, z.2.2.2.2.2.1, z.2.2.2.2.2.2.1, z.2.2.2.2.2.2.2.1) = yLy R C q (yBrow (yCross K) (yKey R C q) (i + 1) j w).2.1 (yBrow (yCross K) (yKey R C q) (i + 1) j w).2.2) 0 31 ⟨rfl, hgo, hy⟩ (by decide) (by decide) (fun j z _ hj hI => ?_) (fun z hI => ?_)) (fun b hb => ?_)
    · obtain ⟨cnt, y3, y4, y5, y6, y7, y8, y9, t3, t4, t5, t6, t7, t8, t9⟩ := z
      obtain ⟨hq, hgo, hy⟩ := hI
      have hq : cnt = nI (j + 1) := hq
      subst hq
      have hz : yBrow (yCross K) (yKey R C q) (i + 1) (j + 1) w = yStep (yCross K) (yKey R C q) (i + 1) (j + 1) (yBrow (yCross K) (yKey R C q) (i + 1) j w) := rfl
      rw [hz]
      generalize yBrow (yCross K) (yKey R C q) (i + 1) j w = v at hgo hy ⊢
      dsimp only at hy ⊢
      refine Ok.ite (fun z => absurd z (by rw [show (31 : Int32) = nI 31 from rfl, nj_lt (by decide) (by omega)]; omega)) (fun _ => ?_)
      have hm2 := c_meet (b := j + 1) (by omega) hkc
      refine Ok.ite (fun w0 => ?_) (fun w0 => ?_)
      · have hc := hm2.mp w0
        refine Ok.to (c_lay (by omega) (by omega) st.1 (by omega) (by omega)) ?_
        refine Ok.to (c_keep (x := yCross K) hR9 hC9 st.1 hq6 hgo hy (by omega) (by omega) (by omega) (by omega) hc) ?_
        exact Ok.some ⟨nj_p1 _, yGo_step hgo (by omega) (by omega) (by omega) (by omega), rfl⟩
      · have hc : yCross K (i + 1) (j + 1) = true := by
          cases e : yCross K (i + 1) (j + 1)
          · exact absurd (hm2.mpr e) w0
          · rfl
        have hS : yStep (yCross K) (yKey R C q) (i + 1) (j + 1) v = v := if_pos hc
        rw [hS]
        exact Ok.some ⟨nj_p1 _, hgo, hy⟩
    · obtain ⟨cnt, y3, y4, y5, y6, y7, y8, y9, t3, t4, t5, t6, t7, t8, t9⟩ := z
      obtain ⟨hq, hgo, hy⟩ := hI
      have hq : cnt = nI (31 + 1) := hq
      subst hq
      exact Ok.ite (fun _ => Ok.some ⟨hgo, hy⟩) (fun z => absurd (show (31 : Int32) < nI (31 + 1) by decide) z)
    · exact Ok.some ⟨nj_p1 _, hb.1, hb.2⟩
  · obtain ⟨cnt, y3, y4, y5, y6, y7, y8, y9, t3, t4, t5, t6, t7, t8, t9⟩ := z
    obtain ⟨hq, hgo, hy⟩ := hI
    have hq : cnt = nI (31 + 1) := hq
    subst hq
    exact Ok.ite (fun _ => Ok.some ⟨hgo, hy⟩) (fun z => absurd (show (31 : Int32) < nI (31 + 1) by decide) z)
  · exact Ok.some ⟨hb.1, rfl, rfl, rfl, hb.2⟩
theorem c_beatsOn {R C q a b : Nat} {K : Nat → Nat → Int32} {wk t3 t4 t5 t6 t7 t8 t9 : Int32} (hK : yFlag wk K) (hR : R ≤ 9) (hC : C ≤ 9) (hq : 1 ≤ q) (ha : a < 32) (hb : b < 32) : fX6_beatsOn wk (nI R) (nI C) (nI q) t3 t4 t5 t6 t7 t8 t9 (nI a) (nI b) = some (if yCross K a b = true then (-1, t3, t4, t5, t6, t7, t8, t9) else (nI (yBf R C (yPop a) (yPop b) q), yLy R C q a b)) := by
  unfold fX6_beatsOn
  refine bto (c_crossKnown hK ha hb) ?_
  cases yCross K a b
  · refine (if_pos (show yb false = 0 by decide)).trans ?_
    exact bto (c_lay (by omega) (by omega) hq ha hb) rfl
  · exact if_neg (show ¬ yb true = 0 by decide)
theorem c_bestNumber {R C q : Nat} {z : Nat × Nat × Nat} {i1 : Int32} (h : yGo R C q z) (hR : R ≤ 9) (hC : C ≤ 9) (hq : 1 ≤ q) : fX6_bestNumber (nI R) (nI C) (nI q) (nI z.2.1) (nI z.2.2) (nI (yTl R (yPop z.2.1))) (nI (yTl C (yPop z.2.2))) (nI (yBf R C (yPop z.2.1) (yPop z.2.2) q)) i1 = some (yBT R C q z i1) := by
  unfold fX6_bestNumber yBT
  rcases h with ⟨z1, z2⟩ | ⟨z1, z2, z3, z4, z5⟩
  · rw [if_pos z1, z1, z2]
    refine bto (c_empty (by decide) (by decide)) ?_
    exact if_neg (show ¬ yb (0 == 0 || 0 == 0) = 0 by decide)
  · have q1 := yPops z1 z2
    have q2 := yPops z3 z4
    rw [if_neg (show ¬ z.2.1 = 0 by omega), yBf_eq q1.1 q2.1 hq]
    refine bto (c_empty z2 z4) ?_
    rw [beq_false_of_ne (show z.2.1 ≠ 0 by omega), beq_false_of_ne (show z.2.2 ≠ 0 by omega)]
    refine (if_pos (show yb (false || false) = 0 by decide)).trans ?_
    by_cases c0 : i1 = 0
    · rw [if_pos c0, if_pos c0]
    rw [if_neg c0, if_neg c0]
    by_cases c1 : i1 = 1
    · rw [if_pos c1, if_pos c1]
    rw [if_neg c1, if_neg c1]
    by_cases c2 : i1 = 2
    · rw [if_pos c2, if_pos c2]
    rw [if_neg c2, if_neg c2]
    unfold fX2_countTiles fX2_countFed fX2_countEdges
    by_cases c3 : i1 = 3
    · rw [if_pos c3, if_pos c3]
      refine bto rfl ?_
      rw [nj_mul]
    rw [if_neg c3, if_neg c3]
    refine bto (bto rfl rfl) ?_
    rw [nj_mul, nj_mul, nj_add, nj_mul, Nat.mul_comm]
