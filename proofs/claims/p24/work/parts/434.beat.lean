def yD0 (ti : Nat) (D : Nat → Nat → Int32) : Nat → Nat → Int32 := if ti = 0 then fun _ _ => 0 else D
abbrev yRS : Type := Int32 × Int64 × Nat × Nat × (Nat → Nat → Int32) × (Nat → Nat → Int32) × Nat × Nat × (Nat → Nat → Int32)
def yOne (r k c g s lr lc : Nat) (G H B : Nat → Nat → Int32) (be : Int32) (ta : Int64) (ti go : Nat) (U S : Nat → Nat → Int32) (Dn Dk : Nat) (D : Nat → Nat → Int32) : yRS ⊕ yRS :=
  if go + 1 = yTb r c s lr lc (ySt k (yIdle g r G c H)) ti then
    (if yNt r c s lr lc ≤ ti + 1 then .inr (be + 1, (yWave r k c g s lr lc G H B ti go (yTr r c s lr lc ti) (ta, U, S)).1, ti + 1, go + 1, (yWave r k c g s lr lc G H B ti go (yTr r c s lr lc ti) (ta, U, S)).2.1, (yWave r k c g s lr lc G H B ti go (yTr r c s lr lc ti) (ta, U, S)).2.2, r + s, c + s, yDrain lr lc (ti / yWd c s lc * yPop lr) (ti % yWd c s lc * yPop lc) (yWave r k c g s lr lc G H B ti go (yTr r c s lr lc ti) (ta, U, S)).2.2 (yTr r c s lr lc ti) (yTc c s lc ti) (yD0 ti D))
    else .inl (be + 1, (yWave r k c g s lr lc G H B ti go (yTr r c s lr lc ti) (ta, U, S)).1, ti + 1, 0, (yWave r k c g s lr lc G H B ti go (yTr r c s lr lc ti) (ta, U, S)).2.1, yFill g (yWave r k c g s lr lc G H B ti go (yTr r c s lr lc ti) (ta, U, S)).2.2, r + s, c + s, yDrain lr lc (ti / yWd c s lc * yPop lr) (ti % yWd c s lc * yPop lc) (yWave r k c g s lr lc G H B ti go (yTr r c s lr lc ti) (ta, U, S)).2.2 (yTr r c s lr lc ti) (yTc c s lc ti) (yD0 ti D)))
  else .inl (be + 1, (yWave r k c g s lr lc G H B ti go (yTr r c s lr lc ti) (ta, U, S)).1, ti, go + 1, (yWave r k c g s lr lc G H B ti go (yTr r c s lr lc ti) (ta, U, S)).2.1, (yWave r k c g s lr lc G H B ti go (yTr r c s lr lc ti) (ta, U, S)).2.2, Dn, Dk, D)
def yRI (r k c g s lr lc st : Nat) (z : yRS) : Prop := z.2.2.1 < yNt r c s lr lc ∧ z.2.2.2.1 < yTb r c s lr lc st z.2.2.1 ∧ (z.2.2.1 = 0 ∨ (z.2.2.2.2.2.2.1 = r + s ∧ z.2.2.2.2.2.2.2.1 = c + s))
def yOneZ (r k c g s lr lc : Nat) (G H B : Nat → Nat → Int32) (z : yRS) : yRS ⊕ yRS := yOne r k c g s lr lc G H B z.1 z.2.1 z.2.2.1 z.2.2.2.1 z.2.2.2.2.1 z.2.2.2.2.2.1 z.2.2.2.2.2.2.1 z.2.2.2.2.2.2.2.1 z.2.2.2.2.2.2.2.2
theorem yOne_inv {r k c g s lr lc : Nat} {G H B : Nat → Nat → Int32} {z : yRS} (J : yJob r k c g s) (Y : yLay lr lc) (h : yRI r k c g s lr lc (ySt k (yIdle g r G c H)) z) : (∃ q, yOneZ r k c g s lr lc G H B z = .inl q ∧ yRI r k c g s lr lc (ySt k (yIdle g r G c H)) q ∧ ((q.2.2.1 = z.2.2.1 ∧ q.2.2.2.1 = z.2.2.2.1 + 1) ∨ (q.2.2.1 = z.2.2.1 + 1 ∧ q.2.2.2.1 = 0 ∧ z.2.2.2.1 + 1 = yTb r c s lr lc (ySt k (yIdle g r G c H)) z.2.2.1))) ∨ ∃ q, yOneZ r k c g s lr lc G H B z = .inr q ∧ q.2.2.2.2.2.2.1 = r + s ∧ q.2.2.2.2.2.2.2.1 = c + s ∧ z.2.2.1 + 1 = yNt r c s lr lc ∧ z.2.2.2.1 + 1 = yTb r c s lr lc (ySt k (yIdle g r G c H)) z.2.2.1 := by
  obtain ⟨be, ta, ti, go, U, S, Dn, Dk, D⟩ := z
  obtain ⟨h1, h2, h3⟩ := h
  dsimp only at h1 h2 h3
  obtain ⟨⟨a1, a2⟩, ⟨a3, a4⟩, ⟨a5, a6⟩, a7, a8⟩ := id J
  have st := ySt_of (k := k) (yIdle g r G c H) (by omega) a3
  unfold yOneZ yOne
  dsimp only
  by_cases hb : go + 1 = yTb r c s lr lc (ySt k (yIdle g r G c H)) ti
  · rw [if_pos hb]
    by_cases hl : yNt r c s lr lc ≤ ti + 1
    · rw [if_pos hl]
      exact Or.inr ⟨_, rfl, rfl, rfl, by omega, hb⟩
    · rw [if_neg hl]
      have tb := yTb_of (st := ySt k (yIdle g r G c H)) J Y (ti := ti + 1) (by omega) st.1 (by omega)
      exact Or.inl ⟨_, rfl, ⟨by show ti + 1 < _; omega, by show 0 < yTb r c s lr lc _ (ti + 1); omega, Or.inr ⟨rfl, rfl⟩⟩, Or.inr ⟨rfl, rfl, hb⟩⟩
  · rw [if_neg hb]
    exact Or.inl ⟨_, rfl, ⟨h1, by show go + 1 < yTb r c s lr lc (ySt k (yIdle g r G c H)) ti; omega, h3⟩, Or.inl ⟨rfl, rfl⟩⟩
def yRun (r k c g s lr lc : Nat) (G H B : Nat → Nat → Int32) (z : yRS) : Nat → yRS ⊕ yRS
  | 0 => .inl z
  | n + 1 => match yRun r k c g s lr lc G H B z n with
    | .inl q => yOneZ r k c g s lr lc G H B q
    | .inr q => .inr q
theorem yRun_end {r k c g s lr lc : Nat} {G H B : Nat → Nat → Int32} {z q : yRS} {i : Nat} (h : yRun r k c g s lr lc G H B z i = .inr q) (d : Nat) : yRun r k c g s lr lc G H B z (i + d) = .inr q := by
  induction d with
  | zero => exact h
  | succ d ih =>
    show (match yRun r k c g s lr lc G H B z (i + d) with
      | .inl q => yOneZ r k c g s lr lc G H B q
      | .inr q => .inr q) = Sum.inr q
    rw [ih]
theorem yFrom_step {r c s lr lc st ti : Nat} (h : ti < yNt r c s lr lc) : yFrom r c s lr lc st ti = yTb r c s lr lc st ti + yFrom r c s lr lc st (ti + 1) := by
  unfold yFrom
  obtain ⟨n, hn⟩ : ∃ n, yNt r c s lr lc - ti = n + 1 := ⟨yNt r c s lr lc - ti - 1, by omega⟩
  have hn2 : yNt r c s lr lc - (ti + 1) = n := by omega
  rw [hn, hn2]
  clear hn hn2 h
  induction n with
  | zero =>
    show ySm 0 _ + yTb r c s lr lc st (ti + 0) = _
    show 0 + yTb r c s lr lc st ti = yTb r c s lr lc st ti + 0
    omega
  | succ n ih =>
    show ySm (n + 1) _ + yTb r c s lr lc st (ti + (n + 1)) = yTb r c s lr lc st ti + (ySm n _ + yTb r c s lr lc st (ti + 1 + n))
    rw [ih]
    have e : ti + (n + 1) = ti + 1 + n := by omega
    rw [e]
    omega
