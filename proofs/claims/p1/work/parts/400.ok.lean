/-! ===== the functions come to an answer ===== -/
def Ok {α : Type} (o : Option α) (P : α → Prop) : Prop := ∃ r, o = some r ∧ P r
theorem Ok.some {α : Type} {P : α → Prop} {r : α} (h : P r) : Ok (Option.some r) P := ⟨r, rfl, h⟩
theorem Ok.bind {α β : Type} {o : Option α} {f : α → Option β} {P : α → Prop} {Q : β → Prop} (h : Ok o P) (k : ∀ r, P r → Ok (f r) Q) : Ok (o.bind f) Q := by
  obtain ⟨r, rfl, hp⟩ := h
  exact k r hp
theorem Ok.ite {α : Type} {c : Prop} [Decidable c] {a b : Option α} {P : α → Prop} (ha : c → Ok a P) (hb : ¬ c → Ok b P) : Ok (if c then a else b) P := by
  by_cases h : c
  · rw [if_pos h]; exact ha h
  · rw [if_neg h]; exact hb h
theorem Ok.grd {α : Type} {c : Prop} [Decidable c] {a : Option α} {P : α → Prop} (hc : c) (ha : Ok a P) : Ok (if c then a else none) P := by rw [if_pos hc]; exact ha
theorem Ok.lt {α β : Type} {x : α} {f : α → Option β} {P : β → Prop} (k : Ok (f x) P) : Ok (ylet x f) P := k
theorem Ok.mono {α : Type} {o : Option α} {P Q : α → Prop} (h : Ok o P) (hpq : ∀ r, P r → Q r) : Ok o Q := by
  obtain ⟨r, e, hp⟩ := h
  exact ⟨r, e, hpq r hp⟩
theorem Ok.br {S R T : Type} {b : S ⊕ R} {f : S → Option T} {h : R → Option T} {P : T → Prop} (hl : ∀ s, b = .inl s → Ok (f s) P) (hr : ∀ r, b = .inr r → Ok (h r) P) : Ok (ybr b f h) P := by
  cases b with
  | inl s => exact hl s rfl
  | inr r => exact hr r rfl
def YS {S B : Type} (I : S → Prop) (P : B → Prop) : S ⊕ B → Prop
  | .inl t => I t
  | .inr b => P b
theorem Ok.lp {S B : Type} {body : S → Option (S ⊕ B)} {P : B → Prop} (I : S → Prop) (μ : S → Nat) (step : ∀ s, I s → Ok (body s) (YS (fun t => I t ∧ μ t < μ s) P)) : ∀ (n : Nat) (s : S), I s → μ s < n → Ok (wl body n s) P
  | 0, s, _, h => absurd h (Nat.not_lt_zero _)
  | n + 1, s, hI, h => by
    obtain ⟨o, e, hP⟩ := step s hI
    unfold wl
    rw [e]
    cases o with
    | inl t => exact Ok.lp I μ step n t hP.1 (Nat.lt_of_lt_of_le hP.2 (Nat.le_of_lt_succ h))
    | inr b => exact ⟨b, rfl, hP⟩
theorem yi_lt {a b : Int32} : a < b ↔ a.toInt < b.toInt := Int32.lt_iff_toInt_lt
theorem yi_le {a b : Int32} : a ≤ b ↔ a.toInt ≤ b.toInt := Int32.le_iff_toInt_le
theorem yi_r (a : Int32) : -2147483648 ≤ a.toInt ∧ a.toInt ≤ 2147483647 := ⟨Int32.le_toInt a, Int32.toInt_le a⟩
theorem yi_add {a b : Int32} (h1 : -2147483648 ≤ a.toInt + b.toInt) (h2 : a.toInt + b.toInt ≤ 2147483647) : (a + b).toInt = a.toInt + b.toInt := by
  rw [Int32.toInt_add]
  exact Int.bmod_eq_of_le (by omega) (by omega)
theorem yi_sub {a b : Int32} (h1 : -2147483648 ≤ a.toInt - b.toInt) (h2 : a.toInt - b.toInt ≤ 2147483647) : (a - b).toInt = a.toInt - b.toInt := by
  rw [Int32.toInt_sub]
  exact Int.bmod_eq_of_le (by omega) (by omega)
theorem yi_mul {a b : Int32} (h1 : -2147483648 ≤ a.toInt * b.toInt) (h2 : a.toInt * b.toInt ≤ 2147483647) : (a * b).toInt = a.toInt * b.toInt := by
  rw [Int32.toInt_mul]
  exact Int.bmod_eq_of_le (by omega) (by omega)
theorem yi_1 {a : Int32} {n : Int} (h : a.toInt < n) (hn : n ≤ 2147483647) : (a + 1).toInt = a.toInt + 1 := yi_add (by have := yi_r a; show -2147483648 ≤ a.toInt + 1; omega) (by show a.toInt + 1 ≤ 2147483647; omega)
theorem yi_nI {n : Nat} (h : n < 2147483648) : (nI n).toInt = n := by
  show (Int32.ofNat n).toInt = n
  rw [Int32.toInt_ofNat_of_lt (by omega)]
theorem yi_cl {x : Int32} (h : 0 ≤ x.toInt) : (x.toNatClampNeg : Int) = x.toInt := by
  show ((x.toInt.toNat : Nat) : Int) = x.toInt
  omega
theorem yi_in {x : Int32} {n : Nat} (h0 : 0 ≤ x.toInt) (h1 : x.toInt < n) : ¬ (x < 0 ∨ n ≤ x.toNatClampNeg) := by
  rw [yi_lt]
  have := yi_cl h0
  show ¬ (x.toInt < 0 ∨ n ≤ x.toNatClampNeg)
  omega
/-- a loop that counts: c from where it is up to n -/
theorem Ok.ct {S B : Type} {body : S → Option (S ⊕ B)} {P : B → Prop} (I : S → Prop) (c : S → Int32) (n : Int) {s0 : S} (hI : I s0) (h0 : 0 ≤ (c s0).toInt) (hn : n ≤ 4000) (step : ∀ s, I s → 0 ≤ (c s).toInt → Ok (body s) (YS (fun t => (c s).toInt < n ∧ c t = c s + 1 ∧ I t) P)) : Ok (wl body yFuel s0) P := by
  refine Ok.lp (fun s => I s ∧ 0 ≤ (c s).toInt) (fun s => (n - (c s).toInt).toNat) (fun s hs => ?_) _ _ ⟨hI, h0⟩ ?_
  · refine (step s hs.1 hs.2).mono (fun o ho => ?_)
    cases o with
    | inr b => exact ho
    | inl t =>
      obtain ⟨g1, g2, g3⟩ := ho
      have e : (c t).toInt = (c s).toInt + 1 := by rw [g2]; exact yi_1 g1 (by omega)
      refine ⟨⟨g3, by have := hs.2; omega⟩, ?_⟩
      show (n - (c t).toInt).toNat < (n - (c s).toInt).toNat
      omega
  · show (n - (c s0).toInt).toNat < 4096
    omega
theorem yi_nle {a b : Int32} {n : Int} (h : ¬ a ≤ b) (hn : a.toInt ≤ n) : b.toInt < n := by rw [yi_le] at h; omega
theorem yi_nlt {a b : Int32} {n : Int} (h : ¬ a < b) (hn : a.toInt < n) : b.toInt < n := by rw [yi_lt] at h; omega
theorem yi_81 {x y : Int32} (h1 : ¬ x < 0) (h2 : ¬ 9 ≤ x) (h3 : ¬ y < 0) (h4 : y < 9) : ¬ ((x * 9 + y) < 0 ∨ 81 ≤ (x * 9 + y).toNatClampNeg) := by
  rw [yi_lt] at h1 h3 h4
  rw [yi_le] at h2
  have h1 : ¬ x.toInt < 0 := h1
  have h2 : ¬ 9 ≤ x.toInt := h2
  have h3 : ¬ y.toInt < 0 := h3
  have h4 : y.toInt < 9 := h4
  have m : (x * 9).toInt = x.toInt * 9 := yi_mul (by show -2147483648 ≤ x.toInt * 9; omega) (by show x.toInt * 9 ≤ 2147483647; omega)
  have e : (x * 9 + y).toInt = x.toInt * 9 + y.toInt := by rw [yi_add (by omega) (by omega), m]
  exact yi_in (by omega) (by omega)
theorem yi_min_le {a b : Int32} : (xn_min a b).toInt ≤ a.toInt := by
  unfold xn_min
  by_cases h : b < a
  · rw [if_pos h]; rw [yi_lt] at h; omega
  · rw [if_neg h]; omega
abbrev Sm (x : Int32) : Prop := 0 ≤ x.toInt ∧ x.toInt ≤ 100
abbrev S9 (x : Int32) : Prop := 0 ≤ x.toInt ∧ x.toInt ≤ 9
abbrev SX (x : Int32) : Prop := 0 ≤ x.toInt ∧ x.toInt ≤ 10
abbrev Up (x : Int32) : Prop := x.toInt ≤ 100
abbrev Bo (x : Int32) : Prop := x = 0 ∨ x = 1
theorem yi_63 (x : Int32) : 0 ≤ (x &&& 63).toInt ∧ (x &&& 63).toInt ≤ 63 := by
  have h : ((x &&& 63).toBitVec).toNat ≤ 63 := by
    rw [Int32.toBitVec_and, BitVec.toNat_and]
    exact Nat.and_le_right
  have e : (x &&& 63).toInt = ((x &&& 63).toBitVec.toNat : Int) := by
    show (x &&& 63).toBitVec.toInt = _
    rw [BitVec.toInt_eq_toNat_of_lt (by omega)]
  omega
theorem yi_p1 {x : Int32} {n : Int} (h : x.toInt ≤ n) (h0 : 0 ≤ x.toInt) (hn : n < 2147483647) : 0 ≤ (x + 1).toInt ∧ (x + 1).toInt = x.toInt + 1 := by
  have e := yi_1 (a := x) (n := n + 1) (by omega) (by omega)
  omega
theorem Sm.sub1 {x : Int32} (h : Sm x) : (x - 1).toInt ≤ 4000 := by
  have h1 := h.1
  have h2 := h.2
  have e : (x - 1).toInt = x.toInt - 1 := yi_sub (by show -2147483648 ≤ x.toInt - 1; omega) (by show x.toInt - 1 ≤ 2147483647; omega)
  omega
theorem yi_fill {s : Int32 × (Nat → Int32)} {num : Int32} (h0 : 0 ≤ s.1.toInt) (h1 : s.1.toInt < 81) (hI : ∀ i : Nat, (i : Int) < s.1.toInt → s.2 i = num) (i : Nat) (h : (i : Int) < (s.1 + 1).toInt) : upd s.2 s.1.toNatClampNeg num i = num := by
  have e := yi_1 (a := s.1) (n := 81) h1 (by decide)
  have e2 := yi_cl h0
  unfold upd
  by_cases h3 : i = s.1.toNatClampNeg
  · rw [if_pos h3]
  · rw [if_neg h3]
    exact hI i (by omega)
theorem yi_s9 {x : Int32} (h1 : ¬ x < 1) (h2 : ¬ 8 < x) : S9 x := by
  rw [yi_lt] at h1 h2
  have h1 : ¬ x.toInt < 1 := h1
  have h2 : ¬ 8 < x.toInt := h2
  exact ⟨by omega, by omega⟩
theorem yi_b01 {w x : Int32} {p q : Prop} (h : S9 w) (hx : (x = 0 ∧ p) ∨ (x = 1 ∧ q)) : 0 ≤ (w + x).toInt ∧ (w + x).toInt ≤ w.toInt + 1 ∧ w.toInt ≤ (w + x).toInt := by
  rcases hx with ⟨e, -⟩ | ⟨e, -⟩
  · rw [e, Int32.add_zero]
    omega
  · rw [e]
    have := yi_p1 h.2 h.1 (by decide)
    omega
theorem yi_bs {x : Int32} {p q : Prop} (h : (x = 0 ∧ p) ∨ (x = 1 ∧ q)) : (x = 0 → p) ∧ (¬ x = 0 → q) := by
  rcases h with ⟨e, g⟩ | ⟨e, g⟩
  · exact ⟨fun _ => g, fun z => absurd e z⟩
  · exact ⟨fun z => by rw [e] at z; exact absurd z (by decide), fun _ => g⟩
theorem yi_st {b i2 : Int32} {x : Int32 × Int32} (h : (b = 0 ∧ x = (0, 0)) ∨ (¬ b = 0 ∧ x = (1, i2))) : (x.1 = 0 → b = 0 ∧ x.2 = 0) ∧ (¬ x.1 = 0 → ¬ b = 0 ∧ x.2 = i2) := by
  rcases h with ⟨e, g⟩ | ⟨e, g⟩
  · rw [g]; exact ⟨fun _ => ⟨e, rfl⟩, fun z => absurd rfl z⟩
  · rw [g]; exact ⟨fun z => absurd (show (1 : Int32) = 0 from z) (by decide), fun _ => ⟨e, rfl⟩⟩
theorem yi_m1 {x : Int32} (h : 0 ≤ x.toInt) (h2 : x.toInt ≤ 1000) : (x - 1).toInt = x.toInt - 1 := yi_sub (by show -2147483648 ≤ x.toInt - 1; omega) (by show x.toInt - 1 ≤ 2147483647; omega)
theorem Ok.bindE {α β : Type} {o : Option α} {f : α → Option β} {P : α → Prop} {Q : β → Prop} (h : Ok o P) (k : ∀ r, o = Option.some r → P r → Ok (f r) Q) : Ok (o.bind f) Q := by
  obtain ⟨r, rfl, hp⟩ := h
  exact k r rfl hp
theorem yi_g9 {x : Int32} (h : S9 x) : ¬ x < 0 ∧ x.toNatClampNeg ≤ 9 := by
  have := yi_cl h.1
  refine ⟨fun z => ?_, by omega⟩
  rw [yi_lt] at z
  have z : x.toInt < 0 := z
  omega
abbrev BG (G : Nat → Nat → Int32) : Prop := ∀ i j, Bo (G i j)
theorem yi_nb {x : Int32} (h : Bo x) : Bo (vp_nar .boolean x) := by rcases h with rfl | rfl <;> decide
theorem yi_and {x y : Int32} (h : Bo x) (h2 : Bo y) : Bo (x &&& y) := by rcases h with rfl | rfl <;> rcases h2 with rfl | rfl <;> decide
theorem yi_bg {G : Nat → Nat → Int32} {i j : Nat} {v : Int32} (h : BG G) (hv : Bo v) : BG (upg G i j v) := by
  intro a b
  unfold upg upd
  by_cases h1 : a = i
  · rw [if_pos h1]
    by_cases h2 : b = j
    · rw [if_pos h2]; exact hv
    · rw [if_neg h2]; exact h i b
  · rw [if_neg h1]; exact h a b
theorem yi_bgr {G B : Nat → Nat → Int32} {i k : Nat} (h : BG G) (hB : BG B) : BG (va_up G i (B k)) := by
  intro a b
  unfold va_up
  by_cases h1 : a = i
  · rw [if_pos h1]; exact hB k b
  · rw [if_neg h1]; exact h a b
