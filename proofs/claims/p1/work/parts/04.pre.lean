/-! loops, branches and calls of the functions that are computed -/
def yFuel : Nat := 4096
def wl {S B : Type} (body : S → Option (S ⊕ B)) : Nat → S → Option B
  | 0, _ => none
  | n + 1, s => match body s with
    | none => none
    | some (.inl t) => wl body n t
    | some (.inr b) => some b
theorem y_loop {S B : Type} {body : S → Option (S ⊕ B)} {P : S → Prop} {b : B} (hs : ∀ s o, body s = some o → (∀ t, o = .inl t → P t) → (∀ z, o = .inr z → z = b) → P s) : ∀ n s, wl body n s = some b → P s
  | 0, s, h => by cases h
  | n + 1, s, h => by
    unfold wl at h
    cases hb : body s with
    | none => rw [hb] at h; cases h
    | some o =>
      rw [hb] at h
      refine hs s o hb (fun t e => ?_) (fun z e => ?_)
      · subst e; exact y_loop hs n t h
      · subst e; exact Option.some.inj h
def ybr {S R T : Type} (b : S ⊕ R) (f : S → Option T) (h : R → Option T) : Option T := match b with
  | .inl s => f s
  | .inr r => h r
theorem ybr_l {S R T : Type} {s : S} {f : S → Option T} {h : R → Option T} {x : Option T} (e : ybr (.inl s) f h = x) : f s = x := e
theorem ybr_r {S R T : Type} {r : R} {f : S → Option T} {h : R → Option T} {x : Option T} (e : ybr (.inr r) f h = x) : h r = x := e
theorem yf_t {c : Prop} [Decidable c] {α : Type} {a b r : α} (h : c) (e : (if c then a else b) = r) : a = r := (if_pos h).symm.trans e
theorem yf_f {c : Prop} [Decidable c] {α : Type} {a b r : α} (h : ¬ c) (e : (if c then a else b) = r) : b = r := (if_neg h).symm.trans e
theorem yf_b {α β : Type} {o : Option α} {f : α → Option β} {r : β} (e : o.bind f = some r) : ∃ x, o = some x ∧ f x = some r := Option.bind_eq_some_iff.mp e
theorem yf_g {c : Prop} [Decidable c] {α : Type} {a : Option α} {r : α} (e : (if c then a else none) = some r) : c ∧ a = some r := by
  by_cases h : c
  · exact ⟨h, (if_pos h).symm.trans e⟩
  · rw [if_neg h] at e; cases e
theorem ynz_n {v : Int32} (h : v = 0 ∨ v = 1) : narrow .boolean (.int v) = .int v := by rcases h with rfl | rfl <;> decide
theorem ynz_f {v : Int32} (h : v = 0 ∨ v = 1) : fits .boolean (.int v) = true := by rcases h with rfl | rfl <;> decide
theorem ylt {x : Int32} {n : Nat} (h : ¬ (x < 0 ∨ n ≤ x.toNatClampNeg)) : x.toNatClampNeg < n := Nat.not_le.mp fun z => h (Or.inr z)
theorem ytab_out {x : Int32} {lo hi : Int} (h : ∀ k : Int, lo ≤ k → k ≤ hi → ¬ x = Int32.ofInt k) : x.toInt < lo ∨ hi < x.toInt := by
  by_cases h1 : x.toInt < lo
  · exact Or.inl h1
  · by_cases h2 : hi < x.toInt
    · exact Or.inr h2
    · exact absurd (Int32.ofInt_toInt x).symm (h x.toInt (by omega) (by omega))
def ylet {α β : Type} (x : α) (f : α → β) : β := f x
theorem yf_l {α β : Type} {x : α} {f : α → β} {r : β} (e : ylet x f = r) : ∃ y, x = y ∧ f y = r := ⟨x, rfl, e⟩
theorem yt_good {L : List Cond} (h : L.all (fun w => decide (w ∈ lw_tbl)) = true) : ∀ w ∈ L.filter goodWord, w ∈ yU := fun w hw => List.mem_filter.mpr ⟨of_decide_eq_true (List.all_eq_true.mp h w (List.mem_filter.mp hw).1), (List.mem_filter.mp hw).2⟩
theorem ymul9 {N K : Nat} (h : N ≤ 9) (h2 : K ≤ 9) : N + N * K ≤ 90 := by
  have := Nat.mul_le_mul h h2
  omega
def yE : Nat → String
  | 0 => "java/lang/IllegalArgumentException"
  | 1 => "java/lang/IndexOutOfBoundsException"
  | _ => "java/lang/IllegalStateException"
theorem in_X0 : ∀ w ∈ u_ws RX0 TX0 4, w ∈ yU := by decide +kernel
theorem in_X1 : ∀ w ∈ u_ws RX1 TX1 7, w ∈ yU := by decide +kernel
theorem in_X2 : ∀ w ∈ u_ws RX2 TX2 10, w ∈ yU := by decide +kernel
theorem in_X3 : ∀ w ∈ u_ws RX3 TX3 4, w ∈ yU := by decide +kernel
theorem in_X4 : ∀ w ∈ u_ws RX4 TX4 1, w ∈ yU := by decide +kernel
theorem in_X5 : ∀ w ∈ u_ws RX5 TX5 11, w ∈ yU := by decide +kernel
theorem in_X6 : ∀ w ∈ u_ws RX6 TX6 6, w ∈ yU := by decide +kernel
theorem in_X7 : ∀ w ∈ u_ws RX7 TX7 2, w ∈ yU := by decide +kernel
theorem in_X8 : ∀ w ∈ u_ws RX8 TX8 7, w ∈ yU := by decide +kernel
theorem in_X9 : ∀ w ∈ u_ws RX9 TX9 17, w ∈ yU := by decide +kernel
theorem in_J0 : ∀ w ∈ u_ws RJ0 TJ0 4, w ∈ yU := by decide +kernel
theorem in_J4 : ∀ w ∈ u_ws RJ4 TJ4 4, w ∈ yU := by decide +kernel
