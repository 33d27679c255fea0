/-! ===== what is used, and the sums of it ===== -/
theorem ySm_one {n a d : Nat} {f : Nat → Nat} (h : a < n) : ySm n (fun i => if i = a then f i + d else f i) = ySm n f + d := by
  induction n with
  | zero => exact absurd h (Nat.not_lt_zero a)
  | succ n ih =>
    show ySm n (fun i => if i = a then f i + d else f i) + (if n = a then f n + d else f n) = ySm n f + f n + d
    by_cases e : n = a
    · rw [if_pos e]
      rw [ySm_ext (f := fun i => if i = a then f i + d else f i) (g := f) (fun i hi => if_neg (by omega))]
      omega
    · rw [if_neg e, ih (by omega)]
      omega
theorem ySm_mem {n i : Nat} {f : Nat → Nat} (h : i < n) : f i ≤ ySm n f := by
  induction n with
  | zero => exact absurd h (Nat.not_lt_zero i)
  | succ n ih =>
    show f i ≤ ySm n f + f n
    by_cases e : i = n
    · rw [e]
      omega
    · have := ih (by omega)
      omega
def yUse (U : Nat → Nat → Int32) (T : Nat) : Prop := ∃ u : Nat → Nat → Nat, (∀ i j, i < 5 → j < 5 → U i j = nI (u i j)) ∧ ySm 5 (fun i => ySm 5 (u i)) = T
theorem yUse_up {U : Nat → Nat → Int32} {T a b : Nat} (h : yUse U T) (ha : a < 5) (hb : b < 5) : yUse (upg U a b (U a b + 1)) (T + 1) := by
  obtain ⟨u, h1, h2⟩ := h
  refine ⟨fun i j => if i = a then (if j = b then u i j + 1 else u i j) else u i j, fun i j hi hj => ?_, ?_⟩
  · unfold upg upd
    dsimp only
    by_cases e1 : i = a
    · by_cases e2 : j = b
      · rw [if_pos e1, if_pos e2, if_pos e1, if_pos e2, h1 a b ha hb, nj_p1, e1, e2]
      · rw [if_pos e1, if_neg e2, if_pos e1, if_neg e2, ← h1 i j hi hj, e1]
    · rw [if_neg e1, if_neg e1]
      exact h1 i j hi hj
  · rw [← h2]
    rw [← ySm_one (n := 5) (a := a) (d := 1) (f := fun i => ySm 5 (u i)) ha]
    refine ySm_ext (fun i hi => ?_)
    by_cases e : i = a
    · rw [if_pos e, ← ySm_one (n := 5) (a := b) (d := 1) (f := u i) hb]
      refine ySm_ext (fun j hj => ?_)
      exact if_pos e
    · rw [if_neg e]
      refine ySm_ext (fun j hj => ?_)
      exact if_neg e
def yHit (st go i j : Nat) : Nat := if i + j ≤ go ∧ go - i - j < st then 1 else 0
def yIT (m n st go : Nat) : Nat := ySm m (fun i => ySm n (fun j => min st (go - i - j)))
def yHs (m n st go : Nat) : Nat := ySm m (fun i => ySm n (fun j => yHit st go i j))
theorem yIT_0 (m n st : Nat) : yIT m n st 0 = 0 := by
  unfold yIT
  rw [ySm_ext (g := fun _ => 0) (fun i _ => by
    rw [ySm_ext (g := fun _ => 0) (fun j _ => by omega), ySm_zero])]
  exact ySm_zero m
theorem yIT_s (m n st go : Nat) : yIT m n st (go + 1) = yIT m n st go + yHs m n st go := by
  unfold yIT yHs
  rw [← ySm_add]
  refine ySm_ext (fun i _ => ?_)
  rw [← ySm_add]
  refine ySm_ext (fun j _ => ?_)
  unfold yHit
  by_cases h : i + j ≤ go ∧ go - i - j < st
  · rw [if_pos h]
    omega
  · rw [if_neg h]
    omega
theorem yIT_end (m n st : Nat) : yIT m n st (m + n + st - 1) = m * n * st := by
  unfold yIT
  rw [ySm_ext (g := fun _ => n * st) (fun i hi => by
    rw [ySm_ext (g := fun _ => st) (fun j hj => by omega), ySm_const])]
  rw [ySm_const, Nat.mul_assoc]
theorem yHs_le {m n st go : Nat} (hm : m ≤ 5) (hn : n ≤ 5) : yHs m n st go ≤ 25 := by
  have h1 : yHs m n st go ≤ m * 5 := ySm_le (fun i _ => by
    have h2 : ySm n (fun j => yHit st go i j) ≤ n * 1 := ySm_le (fun j _ => by
      unfold yHit
      split <;> omega)
    omega)
  omega
def yUt (z : Int64 × (Nat → Nat → Int32) × (Nat → Nat → Int32)) (T : Nat) : Prop := yUse z.2.1 T ∧ z.1 = Int64.ofNat T
theorem yUt_cell {r k c g s lr lc ti go i j T : Nat} {G H B : Nat → Nat → Int32} {z : Int64 × (Nat → Nat → Int32) × (Nat → Nat → Int32)} (Y : yLay lr lc) (hi : i < yPop lr) (hj : j < yPop lc) (h : yUt z T) : yUt (yCell r k c g s lr lc G H B ti go i j z) (T + yHit (yJst r k c g G H) go i j) := by
  unfold yCell
  show yUt (if i + j ≤ go ∧ go - i - j < yJst r k c g G H then _ else z) _
  unfold yHit
  by_cases e : i + j ≤ go ∧ go - i - j < yJst r k c g G H
  · rw [if_pos e, if_pos e]
    refine ⟨yUse_up h.1 (yNth_lt lr Y.1.2 i hi) (yNth_lt lc Y.2.2 j hj), ?_⟩
    show z.1 + 1 = Int64.ofNat (T + 1)
    rw [h.2]
    exact (Int64.ofNat_add T 1).symm
  · rw [if_neg e, if_neg e]
    exact h
theorem yUt_row {r k c g s lr lc ti go i n T : Nat} {G H B : Nat → Nat → Int32} {z : Int64 × (Nat → Nat → Int32) × (Nat → Nat → Int32)} (Y : yLay lr lc) (hi : i < yPop lr) (hn : n ≤ yPop lc) (h : yUt z T) : yUt (yWrow r k c g s lr lc G H B ti go i n z) (T + ySm n (fun j => yHit (yJst r k c g G H) go i j)) := by
  induction n with
  | zero => exact h
  | succ n ih =>
    have := yUt_cell (r := r) (k := k) (c := c) (g := g) (s := s) (ti := ti) (go := go) (G := G) (H := H) (B := B) Y hi (show n < yPop lc by omega) (ih (by omega))
    rw [Nat.add_assoc] at this
    exact this
theorem yUt_wave {r k c g s lr lc ti go m T : Nat} {G H B : Nat → Nat → Int32} {z : Int64 × (Nat → Nat → Int32) × (Nat → Nat → Int32)} (Y : yLay lr lc) (hm : m ≤ yPop lr) (hn : yTc c s lc ti ≤ yPop lc) (h : yUt z T) : yUt (yWave r k c g s lr lc G H B ti go m z) (T + yHs m (yTc c s lc ti) (yJst r k c g G H) go) := by
  induction m with
  | zero => exact h
  | succ m ih =>
    have := yUt_row (r := r) (k := k) (c := c) (g := g) (s := s) (ti := ti) (go := go) (G := G) (H := H) (B := B) Y (show m < yPop lr by omega) hn (ih (by omega))
    rw [Nat.add_assoc] at this
    exact this
/-- what stands while a work runs: W bounds the beats that will have gone by at its end -/
def yX (r c s lr lc st W : Nat) (be : Int32) (ta : Int64) (ti go : Nat) (U : Nat → Nat → Int32) (o : Int32) : Prop := ∃ b T, be = nI b ∧ yUse U T ∧ ta = Int64.ofNat T ∧ T ≤ 25 * b ∧ b + (yFrom r c s lr lc st ti - go) ≤ W ∧ yIT (yTr r c s lr lc ti) (yTc c s lc ti) st go ≤ T ∧ o = nI (T - yIT (yTr r c s lr lc ti) (yTc c s lc ti) st go)
def yXE (W : Nat) (be : Int32) (ta : Int64) (U : Nat → Nat → Int32) (o : Int32) : Prop := ∃ b T, be = nI b ∧ yUse U T ∧ ta = Int64.ofNat T ∧ T ≤ 25 * b ∧ b ≤ W ∧ o = nI T
theorem yX_mono {r c s lr lc st W V : Nat} {be : Int32} {ta : Int64} {ti go : Nat} {U : Nat → Nat → Int32} {o : Int32} (h : yX r c s lr lc st W be ta ti go U o) (hW : W ≤ V) : yX r c s lr lc st V be ta ti go U o := by
  obtain ⟨b, T, h1, h2, h3, h4, h5, h6, h7⟩ := h
  exact ⟨b, T, h1, h2, h3, h4, by omega, h6, h7⟩
theorem yXE_mono {W V : Nat} {be : Int32} {ta : Int64} {U : Nat → Nat → Int32} {o : Int32} (h : yXE W be ta U o) (hW : W ≤ V) : yXE V be ta U o := by
  obtain ⟨b, T, h1, h2, h3, h4, h5, h6⟩ := h
  exact ⟨b, T, h1, h2, h3, h4, by omega, h6⟩
theorem yX_0 {r k c g s lr lc st W : Nat} {be : Int32} {ta : Int64} {U : Nat → Nat → Int32} {o : Int32} (J : yJob r k c g s) (Y : yLay lr lc) (h1 : 1 ≤ st) (h2 : st ≤ 6) (h : yXE W be ta U o) : yX r c s lr lc st (W + 2000) be ta 0 0 U o := by
  obtain ⟨b, T, q1, q2, q3, q4, q5, q6⟩ := h
  have f := yFrom_le (ti := 0) J Y h1 h2
  refine ⟨b, T, q1, q2, q3, q4, by omega, ?_, ?_⟩
  · rw [yIT_0]
    exact Nat.zero_le _
  · rw [yIT_0, q6, Nat.sub_zero]
theorem yX_step {r k c g s lr lc W : Nat} {G H B : Nat → Nat → Int32} {z q : yRS} {o o' : Int32} (J : yJob r k c g s) (Y : yLay lr lc) (hI : yRI r k c g s lr lc (yJst r k c g G H) z) (h : yX r c s lr lc (yJst r k c g G H) W z.1 z.2.1 z.2.2.1 z.2.2.2.1 z.2.2.2.2.1 o) (e : yOneZ r k c g s lr lc G H B z = .inl q) (h1 : z.2.2.2.1 + 1 = yTb r c s lr lc (yJst r k c g G H) z.2.2.1 → o' = o + nI (yTr r c s lr lc z.2.2.1 * yTc c s lc z.2.2.1 * yJst r k c g G H)) (h2 : ¬ z.2.2.2.1 + 1 = yTb r c s lr lc (yJst r k c g G H) z.2.2.1 → o' = o) : yX r c s lr lc (yJst r k c g G H) W q.1 q.2.1 q.2.2.1 q.2.2.2.1 q.2.2.2.2.1 o' := by
  obtain ⟨be, ta, ti, go, U, S, Dn, Dk, D⟩ := z
  obtain ⟨b, T, q1, q2, q3, q4, q5, q6, q7⟩ := h
  obtain ⟨i1, i2, i3⟩ := hI
  dsimp only at q1 q2 q3 q4 q5 q6 q7 i1 i2 i3 h1 h2
  have u := yTr_of J Y i1
  have v := yTc_of ti J Y
  have gg := yGeo J Y
  have fs := yFrom_step (st := yJst r k c g G H) i1
  have w := yUt_wave (r := r) (k := k) (c := c) (g := g) (s := s) (ti := ti) (go := go) (G := G) (H := H) (B := B) (z := (ta, U, S)) Y u.2.2.1 v.2.2.1 ⟨q2, q3⟩
  have hs := yHs_le (m := yTr r c s lr lc ti) (n := yTc c s lc ti) (st := yJst r k c g G H) (go := go) (by omega) (by omega)
  have is := yIT_s (yTr r c s lr lc ti) (yTc c s lc ti) (yJst r k c g G H) go
  have eb : be + 1 = nI (b + 1) := by rw [q1, nj_p1]
  unfold yOneZ yOne at e
  dsimp only at e
  rw [show ySt k (yIdle g r G c H) = yJst r k c g G H from rfl] at e
  by_cases hb : go + 1 = yTb r c s lr lc (yJst r k c g G H) ti
  · rw [if_pos hb] at e
    by_cases hl : yNt r c s lr lc ≤ ti + 1
    · rw [if_pos hl] at e
      cases e
    · rw [if_neg hl] at e
      cases e
      have ie := yIT_end (yTr r c s lr lc ti) (yTc c s lc ti) (yJst r k c g G H)
      have hb2 : go + 1 = yTr r c s lr lc ti + yTc c s lc ti + yJst r k c g G H - 1 := hb
      rw [← hb2, is] at ie
      refine ⟨b + 1, _, eb, w.1, w.2, by omega, by dsimp only; omega, ?_, ?_⟩
      · dsimp only
        rw [yIT_0]
        exact Nat.zero_le _
      · dsimp only
        rw [yIT_0, h1 hb, q7, nj_add, ← ie]
        exact congrArg nI (by omega)
  · rw [if_neg hb] at e
    cases e
    refine ⟨b + 1, _, eb, w.1, w.2, by omega, by dsimp only; omega, by dsimp only; omega, ?_⟩
    dsimp only
    rw [h2 hb, q7]
    exact congrArg nI (by omega)
theorem yX_last {r k c g s lr lc W : Nat} {G H B : Nat → Nat → Int32} {z q : yRS} {o o' : Int32} (J : yJob r k c g s) (Y : yLay lr lc) (hI : yRI r k c g s lr lc (yJst r k c g G H) z) (h : yX r c s lr lc (yJst r k c g G H) W z.1 z.2.1 z.2.2.1 z.2.2.2.1 z.2.2.2.2.1 o) (e : yOneZ r k c g s lr lc G H B z = .inr q) (h1 : z.2.2.2.1 + 1 = yTb r c s lr lc (yJst r k c g G H) z.2.2.1 → o' = o + nI (yTr r c s lr lc z.2.2.1 * yTc c s lc z.2.2.1 * yJst r k c g G H)) : yXE W q.1 q.2.1 q.2.2.2.2.1 o' := by
  obtain ⟨be, ta, ti, go, U, S, Dn, Dk, D⟩ := z
  obtain ⟨b, T, q1, q2, q3, q4, q5, q6, q7⟩ := h
  obtain ⟨i1, i2, i3⟩ := hI
  dsimp only at q1 q2 q3 q4 q5 q6 q7 i1 i2 i3 h1
  have u := yTr_of J Y i1
  have v := yTc_of ti J Y
  have gg := yGeo J Y
  have fs := yFrom_step (st := yJst r k c g G H) i1
  have w := yUt_wave (r := r) (k := k) (c := c) (g := g) (s := s) (ti := ti) (go := go) (G := G) (H := H) (B := B) (z := (ta, U, S)) Y u.2.2.1 v.2.2.1 ⟨q2, q3⟩
  have hs := yHs_le (m := yTr r c s lr lc ti) (n := yTc c s lc ti) (st := yJst r k c g G H) (go := go) (by omega) (by omega)
  have is := yIT_s (yTr r c s lr lc ti) (yTc c s lc ti) (yJst r k c g G H) go
  have eb : be + 1 = nI (b + 1) := by rw [q1, nj_p1]
  unfold yOneZ yOne at e
  dsimp only at e
  rw [show ySt k (yIdle g r G c H) = yJst r k c g G H from rfl] at e
  by_cases hb : go + 1 = yTb r c s lr lc (yJst r k c g G H) ti
  · rw [if_pos hb] at e
    by_cases hl : yNt r c s lr lc ≤ ti + 1
    · rw [if_pos hl] at e
      cases e
      have ie := yIT_end (yTr r c s lr lc ti) (yTc c s lc ti) (yJst r k c g G H)
      have hb2 : go + 1 = yTr r c s lr lc ti + yTc c s lc ti + yJst r k c g G H - 1 := hb
      rw [← hb2, is] at ie
      refine ⟨b + 1, _, eb, w.1, w.2, by omega, by omega, ?_⟩
      rw [h1 hb, q7, nj_add, ← ie]
      exact congrArg nI (by omega)
    · rw [if_neg hl] at e
      cases e
  · rw [if_neg hb] at e
    cases e
theorem nI64 {a : Nat} (h : a < 2147483648) : (nI a).toInt64 = Int64.ofNat a := by
  apply Int64.toInt_inj.mp
  rw [Int32.toInt_toInt64, yi_nI h, Int64.toInt_ofNat_of_lt (by omega)]
theorem yUse_64 {U : Nat → Nat → Int32} {T : Nat} (h : yUse U T) (hT : T < 2147483648) : yUs2 U 5 = Int64.ofNat T := by
  obtain ⟨u, h1, h2⟩ := h
  have hu : ∀ i j, i < 5 → j < 5 → (U i j).toInt64 = Int64.ofNat (u i j) := fun i j hi hj => by
    have a1 := ySm_mem (n := 5) (f := fun i => ySm 5 (u i)) hi
    have a2 := ySm_mem (n := 5) (f := u i) hj
    rw [h1 i j hi hj]
    exact nI64 (by omega)
  have row : ∀ i, i < 5 → ∀ n, n ≤ 5 → ∀ x : Nat, yUr U i n (Int64.ofNat x) = Int64.ofNat (x + ySm n (u i)) := fun i hi n => by
    induction n with
    | zero => exact fun _ _ => rfl
    | succ n ih =>
      intro hn x
      show yUr U i n (Int64.ofNat x) + (U i n).toInt64 = Int64.ofNat (x + (ySm n (u i) + u i n))
      rw [ih (by omega) x, hu i n hi (by omega), ← Int64.ofNat_add, Nat.add_assoc]
  have all : ∀ n, n ≤ 5 → yUs2 U n = Int64.ofNat (ySm n (fun i => ySm 5 (u i))) := fun n => by
    induction n with
    | zero => exact fun _ => rfl
    | succ n ih =>
      intro hn
      show yUr U n 5 (yUs2 U n) = Int64.ofNat (ySm n (fun i => ySm 5 (u i)) + ySm 5 (u n))
      rw [ih (by omega), row n (by omega) 5 (Nat.le_refl _)]
  rw [all 5 (Nat.le_refl _), h2]
theorem yUse_32 {U : Nat → Nat → Int32} {T : Nat} (h : yUse U T) : ySum 5 (fun i => ySum 5 (fun j => U i j)) = nI T := by
  obtain ⟨u, h1, h2⟩ := h
  have row : ∀ i, i < 5 → ∀ n, n ≤ 5 → ySum n (fun j => U i j) = nI (ySm n (u i)) := fun i hi n => by
    induction n with
    | zero => exact fun _ => rfl
    | succ n ih =>
      intro hn
      show ySum n (fun j => U i j) + U i n = nI (ySm n (u i) + u i n)
      rw [ih (by omega), h1 i n hi (by omega), nj_add]
  have all : ∀ n, n ≤ 5 → ySum n (fun i => ySum 5 (fun j => U i j)) = nI (ySm n (fun i => ySm 5 (u i))) := fun n => by
    induction n with
    | zero => exact fun _ => rfl
    | succ n ih =>
      intro hn
      show ySum n (fun i => ySum 5 (fun j => U i j)) + ySum 5 (fun j => U n j) = nI (ySm n (fun i => ySm 5 (u i)) + ySm 5 (u n))
      rw [ih (by omega), row n (by omega) 5 (Nat.le_refl _), nj_add]
  rw [all 5 (Nat.le_refl _), h2]
/-! ===== no layout has fewer beats than the best ===== -/
def yBI (x : Nat → Nat → Bool) (key : Nat → Nat → Nat) (D : Nat → Nat → Prop) (z : Nat × Nat × Nat) : Prop := (z.2.1 = 0 → ∀ a b, D a b → x a b = true) ∧ (z.2.1 ≠ 0 → x z.2.1 z.2.2 = false ∧ z.1 = key z.2.1 z.2.2 ∧ ∀ a b, D a b → x a b = false → z.1 ≤ key a b)
theorem yBI_step {x : Nat → Nat → Bool} {key : Nat → Nat → Nat} {D : Nat → Nat → Prop} {z : Nat × Nat × Nat} {a b : Nat} (ha : a ≠ 0) (h : yBI x key D z) : yBI x key (fun p q => D p q ∨ (p = a ∧ q = b)) (yStep x key a b z) := by
  obtain ⟨h1, h2⟩ := h
  unfold yStep
  by_cases c : x a b = true
  · rw [if_pos c]
    refine ⟨fun e p q d => ?_, fun e => ?_⟩
    · rcases d with d | ⟨rfl, rfl⟩
      · exact h1 e p q d
      · exact c
    · obtain ⟨a1, a2, a3⟩ := h2 e
      refine ⟨a1, a2, fun p q d n => ?_⟩
      rcases d with d | ⟨rfl, rfl⟩
      · exact a3 p q d n
      · rw [c] at n
        cases n
  · rw [if_neg c]
    have c2 : x a b = false := by
      cases hx : x a b
      · rfl
      · exact absurd hx c
    by_cases c3 : z.2.1 = 0 ∨ key a b < z.1
    · rw [if_pos c3]
      refine ⟨fun e => absurd e ha, fun _ => ⟨c2, rfl, fun p q d n => ?_⟩⟩
      rcases d with d | ⟨rfl, rfl⟩
      · by_cases e : z.2.1 = 0
        · rw [h1 e p q d] at n
          cases n
        · have := (h2 e).2.2 p q d n
          show key a b ≤ key p q
          omega
      · exact Nat.le_refl _
    · rw [if_neg c3]
      have e0 : z.2.1 ≠ 0 := fun e => c3 (Or.inl e)
      obtain ⟨a1, a2, a3⟩ := h2 e0
      refine ⟨fun e => absurd e e0, fun _ => ⟨a1, a2, fun p q d n => ?_⟩⟩
      rcases d with d | ⟨rfl, rfl⟩
      · exact a3 p q d n
      · have : ¬ key p q < z.1 := fun e => c3 (Or.inr e)
        omega
theorem yBI_to {x : Nat → Nat → Bool} {key : Nat → Nat → Nat} {D E : Nat → Nat → Prop} {z : Nat × Nat × Nat} (h : yBI x key D z) (hD : ∀ a b, E a b → D a b) : yBI x key E z := ⟨fun e a b d => h.1 e a b (hD a b d), fun e => ⟨(h.2 e).1, (h.2 e).2.1, fun a b d => (h.2 e).2.2 a b (hD a b d)⟩⟩
theorem yBI_row {x : Nat → Nat → Bool} {key : Nat → Nat → Nat} {D : Nat → Nat → Prop} {z : Nat × Nat × Nat} {a : Nat} (ha : a ≠ 0) (h : yBI x key D z) (n : Nat) : yBI x key (fun p q => D p q ∨ (p = a ∧ 1 ≤ q ∧ q < n + 1)) (yBrow x key a n z) := by
  induction n with
  | zero => exact yBI_to h (fun p q d => d.elim id (fun e => by omega))
  | succ n ih => exact yBI_to (yBI_step (b := n + 1) ha ih) (fun p q d => by
      rcases d with d | ⟨e1, e2, e3⟩
      · exact Or.inl (Or.inl d)
      · by_cases e : q = n + 1
        · exact Or.inr ⟨e1, e⟩
        · exact Or.inl (Or.inr ⟨e1, e2, by omega⟩))
theorem yBI_all (x : Nat → Nat → Bool) (key : Nat → Nat → Nat) (n : Nat) : yBI x key (fun p q => (1 ≤ p ∧ p < n + 1) ∧ 1 ≤ q ∧ q < 32) (yBall x key n) := by
  induction n with
  | zero => exact ⟨fun _ p q d => by omega, fun e => absurd rfl e⟩
  | succ n ih => exact yBI_to (yBI_row (a := n + 1) (Nat.succ_ne_zero n) ih 31) (fun p q d => by
      by_cases e : p = n + 1
      · exact Or.inr ⟨e, d.2.1, d.2.2⟩
      · exact Or.inl ⟨⟨d.1.1, by omega⟩, d.2⟩)
theorem yBest_min {K : Nat → Nat → Int32} {R C st : Nat} : ((yBest K R C st).2.1 = 0 → ∀ a b, (1 ≤ a ∧ a < 32) ∧ 1 ≤ b ∧ b < 32 → yCross K a b = true) ∧ ((yBest K R C st).2.1 ≠ 0 → yCross K (yBest K R C st).2.1 (yBest K R C st).2.2 = false ∧ ∀ a b, (1 ≤ a ∧ a < 32) ∧ 1 ≤ b ∧ b < 32 → yCross K a b = false → yBeats R C (yPop (yBest K R C st).2.1) (yPop (yBest K R C st).2.2) st ≤ yBeats R C (yPop a) (yPop b) st) := by
  have h := yBI_all (yCross K) (yKey R C st) 31
  refine ⟨h.1, fun e => ?_⟩
  obtain ⟨h1, h2, h3⟩ := h.2 e
  refine ⟨h1, fun a b d n => ?_⟩
  have h4 := h3 a b d n
  have h5 : (yBest K R C st).1 = yKey R C st (yBest K R C st).2.1 (yBest K R C st).2.2 := h2
  have h6 : (yBest K R C st).1 ≤ yKey R C st a b := h4
  rw [h5] at h6
  unfold yKey at h6
  have p1 := yPop_le a d.1.2
  have p2 := yPop_le b d.2.2
  have p3 : yPop a * yPop b ≤ 5 * 5 := Nat.mul_le_mul p1 p2
  omega
theorem yMinB_no {K : Nat → Nat → Int32} {R C st bb : Nat} (h : ∀ a b, (1 ≤ a ∧ a < 32) ∧ 1 ≤ b ∧ b < 32 → yCross K a b = false → bb ≤ yBeats R C (yPop a) (yPop b) st) : yMinB K R C st bb = false := by
  cases e : yMinB K R C st bb
  · rfl
  · exfalso
    obtain ⟨i, hi, h1, -⟩ := yAny_least e
    obtain ⟨j, hj, h2, -⟩ := yAny_least h1
    rw [Bool.and_eq_true, Bool.not_eq_true', decide_eq_true_eq] at h2
    have := h (i + 1) (j + 1) (by omega) h2.1
    omega
theorem yKB_no {B K : Nat → Nat → Int32} (h : ySub B K) : (yAny 5 fun i => yAny 5 (yKB B K i)) = false := by
  cases e : yAny 5 fun i => yAny 5 (yKB B K i)
  · rfl
  · exfalso
    obtain ⟨i, hi, h1, -⟩ := yAny_least e
    obtain ⟨j, hj, h2, -⟩ := yAny_least h1
    unfold yKB at h2
    rw [Bool.and_eq_true, Bool.not_eq_true', decide_eq_false_iff_not, decide_eq_true_eq] at h2
    exact h2.1 (h i j hi hj h2.2)
theorem yWh_t {K B U : Nat → Nat → Int32} {R C st T : Nat} {ta : Int64} {fin : Bool} (hs : ySub B K) (hu : yUse U T) (hT : T < 2147483648) (hta : ta = Int64.ofNat T) (hf : fin = true) : yWh K B U R C st (yBest K R C st) ta fin = true := by
  have m := yBest_min (K := K) (R := R) (C := C) (st := st)
  unfold yWh
  rw [yKB_no hs, yUse_64 hu hT, hta, hf, decide_eq_true rfl]
  by_cases e : (yBest K R C st).2.1 = 0
  · rw [decide_eq_true e]
    rfl
  · rw [decide_eq_false e, (m.2 e).1, yMinB_no (m.2 e).2]
    rfl
