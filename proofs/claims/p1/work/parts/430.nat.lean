/-! ===== numbers as naturals, loops by equations ===== -/
theorem wl_s {S B : Type} {body : S → Option (S ⊕ B)} {n : Nat} {s t : S} (h : body s = some (.inl t)) : wl body (n + 1) s = wl body n t := by
  conv => lhs; unfold wl
  rw [h]
theorem wl_e {S B : Type} {body : S → Option (S ⊕ B)} {n : Nat} {s : S} {b : B} (h : body s = some (.inr b)) : wl body (n + 1) s = some b := by
  conv => lhs; unfold wl
  rw [h]
theorem wl_eq {S B : Type} {body : S → Option (S ⊕ B)} (F : Nat → S) (a n : Nat) {s0 : S} {b : B} (h0 : s0 = F a) (ha : a ≤ n) (hn : n < 4000) (step : ∀ i, a ≤ i → i < n → body (F i) = some (.inl (F (i + 1)))) (fin : body (F n) = some (.inr b)) : wl body yFuel s0 = some b := by
  subst h0
  have H : ∀ d f i, i + d = n → a ≤ i → d < f → wl body f (F i) = some b := by
    intro d
    induction d with
    | zero =>
      intro f i hi _ hf
      obtain ⟨f, rfl⟩ : ∃ g, f = g + 1 := ⟨f - 1, by omega⟩
      have e : i = n := by omega
      rw [e]
      exact wl_e fin
    | succ d ih =>
      intro f i hi h1 hf
      obtain ⟨f, rfl⟩ : ∃ g, f = g + 1 := ⟨f - 1, by omega⟩
      rw [wl_s (step i h1 (by omega))]
      exact ih f (i + 1) (by omega) (by omega) (by omega)
  exact H (n - a) yFuel a (by omega) (Nat.le_refl _) (by show n - a < 4096; omega)
theorem Ok.for {S B : Type} {body : S → Option (S ⊕ B)} {P : B → Prop} (I : Nat → S → Prop) (a n : Nat) {s0 : S} (h0 : I a s0) (ha : a ≤ n) (hn : n < 4000) (step : ∀ i s, a ≤ i → i < n → I i s → Ok (body s) (YS (I (i + 1)) P)) (fin : ∀ s, I n s → Ok (body s) (YS (fun _ => False) P)) : Ok (wl body yFuel s0) P := by
  have H : ∀ d f i s, i + d = n → a ≤ i → d < f → I i s → Ok (wl body f s) P := by
    intro d
    induction d with
    | zero =>
      intro f i s hi _ hf hI
      obtain ⟨f, rfl⟩ : ∃ g, f = g + 1 := ⟨f - 1, by omega⟩
      have e : i = n := by omega
      rw [e] at hI
      obtain ⟨o, e, hP⟩ := fin s hI
      cases o with
      | inl t => exact absurd hP id
      | inr b => exact ⟨b, wl_e e, hP⟩
    | succ d ih =>
      intro f i s hi h1 hf hI
      obtain ⟨f, rfl⟩ : ∃ g, f = g + 1 := ⟨f - 1, by omega⟩
      obtain ⟨o, e, hP⟩ := step i s h1 (by omega) hI
      cases o with
      | inl t =>
        rw [wl_s e]
        exact ih f (i + 1) t (by omega) (by omega) (by omega) hP
      | inr b => exact ⟨b, wl_e e, hP⟩
  exact H (n - a) yFuel a s0 (by omega) (Nat.le_refl _) (by show n - a < 4096; omega) h0
theorem Ok.of {α : Type} {o : Option α} {r : α} {P : α → Prop} (e : o = Option.some r) (h : P r) : Ok o P := ⟨r, e, h⟩
theorem Ok.eq {α : Type} {o : Option α} {v : α} (h : Ok o (fun r => r = v)) : o = Option.some v := by
  obtain ⟨r, e, rfl⟩ := h
  exact e
theorem Ok.and {α : Type} {o : Option α} {P Q : α → Prop} (h : Ok o P) (k : Ok o Q) : Ok o (fun r => P r ∧ Q r) := by
  obtain ⟨r, e, hp⟩ := h
  obtain ⟨q, f, hq⟩ := k
  rw [e] at f
  cases f
  exact ⟨r, e, hp, hq⟩
/-- step over a call that is known -/
theorem Ok.to {α β : Type} {o : Option α} {r : α} {f : α → Option β} {Q : β → Prop} (e : o = Option.some r) (k : Ok (f r) Q) : Ok (o.bind f) Q := by
  rw [e]
  exact k
theorem nj_le {a b : Nat} (ha : a < 2147483648) (hb : b < 2147483648) : (nI a ≤ nI b) = (a ≤ b) := by
  rw [yi_le, yi_nI ha, yi_nI hb]
  exact propext ⟨fun h => by omega, fun h => by omega⟩
theorem nj_lt {a b : Nat} (ha : a < 2147483648) (hb : b < 2147483648) : (nI a < nI b) = (a < b) := by
  rw [yi_lt, yi_nI ha, yi_nI hb]
  exact propext ⟨fun h => by omega, fun h => by omega⟩
theorem nj_eq {a b : Nat} (ha : a < 2147483648) (hb : b < 2147483648) : (nI a = nI b) = (a = b) := by
  refine propext ⟨fun h => ?_, fun h => by rw [h]⟩
  have e := congrArg Int32.toInt h
  rw [yi_nI ha, yi_nI hb] at e
  omega
theorem nj_cl {a : Nat} (h : a < 2147483648) : (nI a).toNatClampNeg = a := by
  have e := yi_cl (x := nI a) (by rw [yi_nI h]; omega)
  rw [yi_nI h] at e
  omega
theorem nj_neg {a : Nat} (h : a < 2147483648) : (nI a < 0) = False := eq_false (by
  rw [yi_lt, yi_nI h]
  show ¬ ((a : Int) < 0)
  omega)
theorem nj_m1 {a : Nat} (h : a < 2147483648) : (nI a = -1) = False := eq_false (fun e => by
  have e := congrArg Int32.toInt e
  rw [yi_nI h] at e
  have l : Int32.toInt (-1) = -1 := by decide
  omega)
theorem nj_add (a b : Nat) : nI a + nI b = nI (a + b) := (Int32.ofNat_add a b).symm
theorem nj_mul (a b : Nat) : nI a * nI b = nI (a * b) := (Int32.ofNat_mul a b).symm
theorem nj_sub {a b : Nat} (h : b ≤ a) : nI a - nI b = nI (a - b) := by
  have e : nI a = nI (a - b) + nI b := by rw [nj_add, Nat.sub_add_cancel h]
  rw [e]
  exact Int32.add_sub_cancel _ _
theorem nj_div {a b : Nat} (ha : a < 2147483648) (hb : b < 2147483648) : nI a / nI b = nI (a / b) := (Int32.ofNat_div ha hb).symm
theorem nj_p1 (a : Nat) : nI a + 1 = nI (a + 1) := nj_add a 1
theorem nj_min {a b : Nat} (ha : a < 2147483648) (hb : b < 2147483648) : xn_min (nI a) (nI b) = nI (min a b) := by
  unfold xn_min
  by_cases h : b < a
  · rw [if_pos ((nj_lt hb ha).mpr h), Nat.min_eq_right (by omega)]
  · rw [if_neg (fun z => h ((nj_lt hb ha).mp z)), Nat.min_eq_left (by omega)]
theorem nj_to {x : Int32} (h : 0 ≤ x.toInt) : x = nI x.toInt.toNat := by
  apply Int32.toInt_inj.mp
  have := yi_r x
  rw [yi_nI (by omega)]
  omega
theorem li0 : (0 : Int32) = nI 0 := rfl
theorem li1 : (1 : Int32) = nI 1 := rfl
theorem li2 : (2 : Int32) = nI 2 := rfl
theorem li3 : (3 : Int32) = nI 3 := rfl
theorem li4 : (4 : Int32) = nI 4 := rfl
theorem li5 : (5 : Int32) = nI 5 := rfl
theorem li32 : (32 : Int32) = nI 32 := rfl
theorem li100 : (100 : Int32) = nI 100 := rfl
theorem nj_in {a n : Nat} (h : a < n) (h2 : a < 2147483648) : ¬ (nI a < 0 ∨ n ≤ (nI a).toNatClampNeg) := by
  rw [nj_neg h2, nj_cl h2, false_or]
  omega
def yb (b : Bool) : Int32 := if b = true then nI 1 else nI 0
theorem yb_t : yb true = nI 1 := rfl
theorem yb_f : yb false = nI 0 := rfl
theorem yb_0 (b : Bool) : (yb b = 0) = (b = false) := by cases b <;> decide
theorem yb_and (a b : Bool) : yb a &&& yb b = yb (a && b) := by cases a <;> cases b <;> decide
def ySum (n : Nat) (f : Nat → Int32) : Int32 := match n with
  | 0 => 0
  | n + 1 => ySum n f + f n
def ySm (n : Nat) (f : Nat → Nat) : Nat := match n with
  | 0 => 0
  | n + 1 => ySm n f + f n
def yAll (n : Nat) (p : Nat → Bool) : Bool := match n with
  | 0 => true
  | n + 1 => yAll n p && p n
def yAny (n : Nat) (p : Nat → Bool) : Bool := match n with
  | 0 => false
  | n + 1 => yAny n p || p n
def yBits (n : Nat) (p : Nat → Bool) : Nat := match n with
  | 0 => 0
  | n + 1 => yBits n p + (if p n = true then 2 ^ n else 0)
def yFold {α : Type} (n : Nat) (f : Nat → α → α) (x : α) : α := match n with
  | 0 => x
  | n + 1 => f n (yFold n f x)
def yBit (m i : Nat) : Bool := m / 2 ^ i % 2 == 1
def yPop (m : Nat) : Nat := m % 2 + m / 2 % 2 + m / 4 % 2 + m / 8 % 2 + m / 16 % 2 + m / 32 % 2
def yNthIs (m i j : Nat) : Bool := yBit m j && (yPop (m % 2 ^ j) == i)
def yNth (m i : Nat) : Nat := if yNthIs m i 0 then 0 else if yNthIs m i 1 then 1 else if yNthIs m i 2 then 2 else if yNthIs m i 3 then 3 else if yNthIs m i 4 then 4 else 5
theorem yBits_lt (n : Nat) (p : Nat → Bool) : yBits n p < 2 ^ n := by
  induction n with
  | zero => exact Nat.one_pos
  | succ n ih =>
    show yBits n p + (if p n = true then 2 ^ n else 0) < 2 ^ (n + 1)
    rw [Nat.pow_succ]
    by_cases h : p n = true
    · rw [if_pos h]; omega
    · rw [if_neg h]; omega
theorem yAny_no {n : Nat} {p : Nat → Bool} (h : yAny n p = false) : ∀ i, i < n → p i = false := by
  induction n with
  | zero => intro i hi; omega
  | succ n ih =>
    intro i hi
    have h : (yAny n p || p n) = false := h
    rw [Bool.or_eq_false_iff] at h
    by_cases e : i = n
    · rw [e]; exact h.2
    · exact ih h.1 i (by omega)
theorem yAny_least {n : Nat} {p : Nat → Bool} (h : yAny n p = true) : ∃ i, i < n ∧ p i = true ∧ ∀ j, j < i → p j = false := by
  induction n with
  | zero => exact absurd (show false = true from h) (by decide)
  | succ n ih =>
    by_cases e : yAny n p = true
    · obtain ⟨i, h1, h2, h3⟩ := ih e
      exact ⟨i, by omega, h2, h3⟩
    · have e : yAny n p = false := by simpa using e
      have h : (yAny n p || p n) = true := h
      rw [e, Bool.false_or] at h
      exact ⟨n, by omega, h, yAny_no e⟩
theorem yAny_of {n : Nat} {p : Nat → Bool} {i : Nat} (hi : i < n) (h : p i = true) : yAny n p = true := by
  by_cases e : yAny n p = true
  · exact e
  · have e : yAny n p = false := by simpa using e
    rw [yAny_no e i hi] at h
    exact absurd h (by decide)
theorem yAll_of {n : Nat} {p : Nat → Bool} (h : ∀ i, i < n → p i = true) : yAll n p = true := by
  induction n with
  | zero => rfl
  | succ n ih =>
    show (yAll n p && p n) = true
    rw [ih (fun i hi => h i (by omega)), h n (by omega)]
    rfl
theorem yAll_to {n : Nat} {p : Nat → Bool} (h : yAll n p = true) : ∀ i, i < n → p i = true := by
  induction n with
  | zero => intro i hi; omega
  | succ n ih =>
    intro i hi
    have h : (yAll n p && p n) = true := h
    rw [Bool.and_eq_true] at h
    by_cases e : i = n
    · rw [e]; exact h.2
    · exact ih h.1 i (by omega)
theorem wl_any {S B : Type} {body : S → Option (S ⊕ B)} (F : Nat → S) (n : Nat) (p : Nat → Bool) {s0 : S} {b1 b2 : B} (h0 : s0 = F 0) (hn : n < 4000) (no : ∀ i, i < n → p i = false → body (F i) = some (.inl (F (i + 1)))) (yes : ∀ i, i < n → p i = true → body (F i) = some (.inr b1)) (fin : body (F n) = some (.inr b2)) : wl body yFuel s0 = some (if yAny n p = true then b1 else b2) := by
  by_cases h : yAny n p = true
  · rw [if_pos h]
    obtain ⟨i, h1, h2, h3⟩ := yAny_least h
    exact wl_eq F 0 i h0 (Nat.zero_le _) (by omega) (fun j _ hj => no j (by omega) (h3 j hj)) (yes i h1 h2)
  · rw [if_neg h]
    have h : yAny n p = false := by simpa using h
    exact wl_eq F 0 n h0 (Nat.zero_le _) hn (fun j _ hj => no j hj (yAny_no h j hj)) fin
theorem e_pop : ∀ m, m < 64 → fJ6_bitCount_0f7a4 (nI m) = some (nI (yPop m)) := by decide +kernel
theorem yPop_le : ∀ m, m < 32 → yPop m ≤ 5 := by decide +kernel
theorem yPop_pos : ∀ m, m < 32 → 1 ≤ m → 1 ≤ yPop m := by decide +kernel
theorem e_has : ∀ m, m < 32 → ∀ i, i < 8 → fX9_has (nI m) (nI i) = some (yb (yBit m i)) := by decide +kernel
theorem e_nth : ∀ m, m < 64 → ∀ i, i < yPop m → fX9_nth (nI m) (nI i) = some (nI (yNth m i)) := by decide +kernel
theorem yNth_lt : ∀ m, m < 32 → ∀ i, i < yPop m → yNth m i < 5 := by decide +kernel
theorem yNth_k : ∀ k, k < 7 → ∀ m, m < 2 ^ k → ∀ i, i < yPop m → yNth m i < k := by decide +kernel
theorem e_one (b : Bool) : fX9_one (yb b) = some (yb b) := by cases b <;> rfl
theorem e_oneS {s : Nat} (h : s ≤ 1) : fX9_one (nI s) = some (nI s) := by
  rcases (show s = 0 ∨ s = 1 by omega) with rfl | rfl <;> rfl
