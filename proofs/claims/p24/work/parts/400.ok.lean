def Ok {α : Type} (o : Option α) (P : α → Prop) : Prop := ∃ r, o = some r ∧ P r
theorem Ok.some {α : Type} {P : α → Prop} {r : α} (h : P r) : Ok (Option.some r) P := ⟨r, rfl, h⟩
theorem Ok.bind {α β : Type} {o : Option α} {f : α → Option β} {P : α → Prop} {Q : β → Prop} (h : Ok o P) (k : ∀ r, P r → Ok (f r) Q) : Ok (o.bind f) Q := by
  obtain ⟨r, rfl, hp⟩ := h
  exact k r hp
theorem Ok.ite {α : Type} {c : Prop} [Decidable c] {a b : Option α} {P : α → Prop} (ha : c → Ok a P) (hb : ¬ c → Ok b P) : Ok (if c then a else b) P := by
  by_cases h : c
  · rw [if_pos h]; exact ha h
  · rw [if_neg h]; exact hb h
theorem Ok.grd {α : Type} {c : Prop} [Decidable c] {a : Option α} {P : α → Prop} (hc : c) (ha : Ok a P) : Ok (if c then a else none) P := by rw [if_pos hc]; exact ha
theorem Ok.lt {α β : Type} {x : α} {f : α → Option β} {P : β → Prop} (k : Ok (f x) P) : Ok (ylet x f) P := k
theorem Ok.mono {α : Type} {o : Option α} {P Q : α → Prop} (h : Ok o P) (hpq : ∀ r, P r → Q r) : Ok o Q := by
  obtain ⟨r, e, hp⟩ := h
  exact ⟨r, e, hpq r hp⟩
def YS {S B : Type} (I : S → Prop) (P : B → Prop) : S ⊕ B → Prop
  | .inl t => I t
  | .inr b => P b
theorem Ok.lp {S B : Type} {body : S → Option (S ⊕ B)} {P : B → Prop} (I : S → Prop) (μ : S → Nat) (step : ∀ s, I s → Ok (body s) (YS (fun t => I t ∧ μ t < μ s) P)) : ∀ (n : Nat) (s : S), I s → μ s < n → Ok (wl body n s) P
  | 0, s, _, h => absurd h (Nat.not_lt_zero _)
  | n + 1, s, hI, h => by
    obtain ⟨o, e, hP⟩ := step s hI
    unfold wl
    rw [e]
    cases o with
    | inl t => exact Ok.lp I μ step n t hP.1 (Nat.lt_of_lt_of_le hP.2 (Nat.le_of_lt_succ h))
    | inr b => exact ⟨b, rfl, hP⟩
theorem yi_lt {a b : Int32} : a < b ↔ a.toInt < b.toInt := Int32.lt_iff_toInt_lt
theorem yi_le {a b : Int32} : a ≤ b ↔ a.toInt ≤ b.toInt := Int32.le_iff_toInt_le
theorem yi_r (a : Int32) : -2147483648 ≤ a.toInt ∧ a.toInt ≤ 2147483647 := ⟨Int32.le_toInt a, Int32.toInt_le a⟩
theorem yi_sub {a b : Int32} (h1 : -2147483648 ≤ a.toInt - b.toInt) (h2 : a.toInt - b.toInt ≤ 2147483647) : (a - b).toInt = a.toInt - b.toInt := by
  rw [Int32.toInt_sub]
  exact Int.bmod_eq_of_le (by omega) (by omega)
theorem yi_nI {n : Nat} (h : n < 2147483648) : (nI n).toInt = n := by
  show (Int32.ofNat n).toInt = n
  rw [Int32.toInt_ofNat_of_lt (by omega)]
theorem yi_cl {x : Int32} (h : 0 ≤ x.toInt) : (x.toNatClampNeg : Int) = x.toInt := by
  show ((x.toInt.toNat : Nat) : Int) = x.toInt
  omega
abbrev Bo (x : Int32) : Prop := x = 0 ∨ x = 1
abbrev BG (G : Nat → Nat → Int32) : Prop := ∀ i j, Bo (G i j)
