/-! ===== a work that runs in the reference, exactly ===== -/
def yJob (r k c g s : Nat) : Prop := (1 ≤ r ∧ r ≤ 8) ∧ (1 ≤ k ∧ k ≤ 6) ∧ (1 ≤ c ∧ c ≤ 8) ∧ g ≤ 2 ∧ s ≤ 1
def yLay (lr lc : Nat) : Prop := (1 ≤ lr ∧ lr < 32) ∧ 1 ≤ lc ∧ lc < 32
def yWd (c s lc : Nat) : Nat := yTl (c + s) (yPop lc)
def yNt (r c s lr lc : Nat) : Nat := yTl (r + s) (yPop lr) * yWd c s lc
def yTr (r c s lr lc ti : Nat) : Nat := ySz (r + s) (yPop lr) (ti / yWd c s lc)
def yTc (c s lc ti : Nat) : Nat := ySz (c + s) (yPop lc) (ti % yWd c s lc)
def yTb (r c s lr lc st ti : Nat) : Nat := yTr r c s lr lc ti + yTc c s lc ti + st - 1
theorem yGeo {r k c g s lr lc : Nat} (J : yJob r k c g s) (Y : yLay lr lc) : (1 ≤ yPop lr ∧ yPop lr ≤ 5) ∧ (1 ≤ yPop lc ∧ yPop lc ≤ 5) ∧ (1 ≤ yTl (r + s) (yPop lr) ∧ yTl (r + s) (yPop lr) ≤ 9) ∧ (1 ≤ yWd c s lc ∧ yWd c s lc ≤ 9) ∧ 1 ≤ yNt r c s lr lc ∧ yNt r c s lr lc ≤ 81 := by
  obtain ⟨⟨a1, a2⟩, ⟨a3, a4⟩, ⟨a5, a6⟩, a7, a8⟩ := J
  obtain ⟨⟨b1, b2⟩, b3, b4⟩ := Y
  have p1 := yPop_pos lr b2 b1
  have p2 := yPop_pos lc b4 b3
  have q1 := yPop_le lr b2
  have q2 := yPop_le lc b4
  have t1 := yTl_le (a := r + s) p1
  have t2 := yTl_le (a := c + s) p2
  have u1 := yTl_pos (a := r + s) p1 (by omega)
  have u2 := yTl_pos (a := c + s) p2 (by omega)
  have m1 : yTl (r + s) (yPop lr) * yTl (c + s) (yPop lc) ≤ 9 * 9 := Nat.mul_le_mul (by omega) (by omega)
  have m2 : 1 * 1 ≤ yTl (r + s) (yPop lr) * yTl (c + s) (yPop lc) := Nat.mul_le_mul u1 u2
  unfold yNt yWd
  refine ⟨⟨p1, q1⟩, ⟨p2, q2⟩, ⟨u1, by omega⟩, ⟨u2, by omega⟩, by omega, by omega⟩
theorem yTr_of {r k c g s lr lc ti : Nat} (J : yJob r k c g s) (Y : yLay lr lc) (h : ti < yNt r c s lr lc) : ti / yWd c s lc < yTl (r + s) (yPop lr) ∧ 1 ≤ yTr r c s lr lc ti ∧ yTr r c s lr lc ti ≤ yPop lr ∧ ti / yWd c s lc * yPop lr + yTr r c s lr lc ti ≤ r + s := by
  obtain ⟨g1, g2, g3, g4, g5, g6⟩ := yGeo J Y
  have h1 : ti / yWd c s lc < yTl (r + s) (yPop lr) := Nat.div_lt_of_lt_mul (by rw [Nat.mul_comm]; exact h)
  have h2 := ySz_of g1.1 h1
  exact ⟨h1, h2⟩
theorem yTc_of {r k c g s lr lc : Nat} (ti : Nat) (J : yJob r k c g s) (Y : yLay lr lc) : ti % yWd c s lc < yWd c s lc ∧ 1 ≤ yTc c s lc ti ∧ yTc c s lc ti ≤ yPop lc ∧ ti % yWd c s lc * yPop lc + yTc c s lc ti ≤ c + s := by
  obtain ⟨g1, g2, g3, g4, g5, g6⟩ := yGeo J Y
  have h1 : ti % yWd c s lc < yWd c s lc := Nat.mod_lt _ g4.1
  exact ⟨h1, ySz_of g2.1 h1⟩
theorem mod_nI {a b : Nat} (ha : a < 2147483648) (hb : b < 2147483648) : nI a - nI a / nI b * nI b = nI (a % b) := by
  rw [nj_div ha hb, nj_mul, nj_sub (Nat.div_mul_le_self a b)]
  have e := Nat.div_add_mod a b
  rw [Nat.mul_comm] at e
  exact congrArg nI (by omega)
theorem e_h {m : Nat} (h : m < 32) : fX9_h (nI m) = some (nI (yPop m)) := by
  unfold fX9_h
  exact bto (e_pop m (by omega)) rfl
theorem e_w {m : Nat} (h : m < 32) : fX9_w (nI m) = some (nI (yPop m)) := by
  unfold fX9_w
  exact bto (e_pop m (by omega)) rfl
theorem e_tileRows {r k c g s lr lc ti : Nat} (J : yJob r k c g s) (Y : yLay lr lc) (h : ti < yNt r c s lr lc) : fX9_tileRows (nI lr) (nI lc) (nI ti) (nI r) (nI c) (nI s) = some (nI (yTr r c s lr lc ti)) := by
  obtain ⟨g1, g2, g3, g4, g5, g6⟩ := yGeo J Y
  have u := yTr_of J Y h
  obtain ⟨⟨a1, a2⟩, ⟨a3, a4⟩, ⟨a5, a6⟩, a7, a8⟩ := J
  obtain ⟨⟨b1, b2⟩, b3, b4⟩ := Y
  unfold fX9_tileRows
  refine bto (e_rows a8) ?_
  refine bto (e_h b2) ?_
  refine bto (e_columns a8) ?_
  refine bto (e_w b4) ?_
  refine bto (e_tiles (by omega) (by omega) g2.1) ?_
  refine (if_pos (fun z => ?_)).trans ?_
  · rw [li0, nj_eq (by unfold yWd at g4; omega) (by decide)] at z
    unfold yWd at g4
    omega
  · unfold yWd at u g4
    rw [nj_div (by omega) (by omega)]
    refine bto (e_size (by omega) (by omega) (by omega)) ?_
    rfl
theorem e_tileColumns {r k c g s lr lc ti : Nat} (J : yJob r k c g s) (Y : yLay lr lc) (h : ti < 1000) : fX9_tileColumns (nI lc) (nI ti) (nI c) (nI s) = some (nI (yTc c s lc ti)) := by
  obtain ⟨g1, g2, g3, g4, g5, g6⟩ := yGeo J Y
  have u := yTc_of ti J Y
  obtain ⟨⟨a1, a2⟩, ⟨a3, a4⟩, ⟨a5, a6⟩, a7, a8⟩ := J
  obtain ⟨⟨b1, b2⟩, b3, b4⟩ := Y
  unfold fX9_tileColumns
  refine bto (e_columns a8) ?_
  refine bto (e_w b4) ?_
  refine bto (e_columns a8) ?_
  refine bto (e_w b4) ?_
  refine bto (e_tiles (by omega) (by omega) g2.1) ?_
  refine (if_pos (fun z => ?_)).trans ?_
  · rw [li0, nj_eq (by unfold yWd at g4; omega) (by decide)] at z
    unfold yWd at g4
    omega
  · unfold yWd at u g4
    rw [mod_nI (by omega) (by omega)]
    refine bto (e_size (by omega) (by omega) (by omega)) ?_
    rfl
theorem e_tileBeats {r k c g s lr lc ti : Nat} {G H : Nat → Nat → Int32} (J : yJob r k c g s) (Y : yLay lr lc) (h : ti < yNt r c s lr lc) : fX9_tileBeats (nI lr) (nI lc) (nI ti) (nI r) (nI k) (nI c) (nI g) (nI s) r k G k c H = some (nI (yTb r c s lr lc (ySt k (yIdle g r G c H)) ti)) := by
  have u := yTr_of J Y h
  have v := yTc_of ti J Y
  have gg := yGeo J Y
  unfold fX9_tileBeats
  refine bto (e_tileRows J Y h) ?_
  refine bto (e_tileColumns J Y (by omega)) ?_
  obtain ⟨⟨a1, a2⟩, ⟨a3, a4⟩, ⟨a5, a6⟩, a7, a8⟩ := J
  refine bto (e_steps a7 (by omega) (by omega) a3 a4 (Nat.le_refl _) (Nat.le_refl _)) ?_
  rw [nj_add, nj_add, li1, nj_sub (by omega)]
  rfl
def yFill (g : Nat) (S : Nat → Nat → Int32) : Nat → Nat → Int32 := fun a b => if a < 5 ∧ b < 5 then yFirst g else S a b
theorem y_ifc {α : Type} {p q : Prop} [Decidable p] [Decidable q] {x y : α} (h : p ↔ q) : (if p then x else y) = (if q then x else y) := by
  by_cases e : p
  · rw [if_pos e, if_pos (h.mp e)]
  · rw [if_neg e, if_neg (fun z => e (h.mpr z))]
theorem upg_if {x : Int32} {S : Nat → Nat → Int32} {p : Nat → Nat → Prop} [∀ a b, Decidable (p a b)] {i j : Nat} : upg (fun a b => if p a b then x else S a b) i j x = fun a b => if p a b ∨ (a = i ∧ b = j) then x else S a b := by
  funext a b
  unfold upg upd
  by_cases h1 : a = i
  · by_cases h2 : b = j
    · rw [if_pos h1, if_pos h2, if_pos (Or.inr ⟨h1, h2⟩)]
    · rw [if_pos h1, if_neg h2, ← h1]
      exact y_ifc ⟨Or.inl, fun z => z.elim id (fun w => absurd w.2 h2)⟩
  · rw [if_neg h1]
    exact y_ifc ⟨Or.inl, fun z => z.elim id (fun w => absurd w.1 h1)⟩
theorem e_begin {g : Nat} {S : Nat → Nat → Int32} (hg : g ≤ 2) : fX9_begin (nI g) S = some (0, yFill g S) := by
  unfold fX9_begin
  refine bto (wl_eq (fun i => (nI i, fun a b => if a < i ∧ b < 5 then yFirst g else S a b)) 0 5 (b := (nI 5, yFill g S)) ?_ (by decide) (by decide) (fun i _ hi => ?_) ?_) rfl
  · exact congrArg (Prod.mk (nI 0)) (funext fun a => funext fun b => (if_neg (by omega)).symm)
  · refine (if_neg (fun z => ?_)).trans ?_
    · rw [nj_le (by decide) (by omega)] at z
      omega
    refine (if_pos (nj_in hi (by omega))).trans ?_
    refine bto (wl_eq (fun j => (nI j, fun a b => if (a < i ∧ b < 5) ∨ (a = i ∧ b < j) then yFirst g else S a b)) 0 5 (b := (nI 5, fun a b => if a < i + 1 ∧ b < 5 then yFirst g else S a b)) ?_ (by decide) (by decide) (fun j _ hj => ?_) ?_) ?_
    · exact congrArg (Prod.mk (nI 0)) (funext fun a => funext fun b => y_ifc (by omega))
    · refine (if_neg (fun z => ?_)).trans ?_
      · rw [li5, nj_le (by decide) (by omega)] at z
        omega
      refine bto (e_first hg) ?_
      refine (if_pos (nj_in hj (by omega))).trans ?_
      dsimp only
      rw [nj_cl (by omega), nj_cl (by omega), upg_if, nj_p1]
      exact congrArg (fun f => some (Sum.inl (nI (j + 1), f))) (funext fun a => funext fun b => y_ifc (by omega))
    · refine (if_pos (show (5 : Int32) ≤ nI 5 by decide)).trans ?_
      exact congrArg (fun f => some (Sum.inr (nI 5, f))) (funext fun a => funext fun b => y_ifc (by omega))
    · dsimp only
      rw [nj_p1]
  · exact if_pos (show nI 5 ≤ nI 5 by decide)
def yFrom (r c s lr lc st ti : Nat) : Nat := ySm (yNt r c s lr lc - ti) (fun d => yTb r c s lr lc st (ti + d))
theorem e_beatsFrom {r k c g s lr lc ti : Nat} {G H : Nat → Nat → Int32} (J : yJob r k c g s) (Y : yLay lr lc) (h : ti ≤ yNt r c s lr lc) : fX9_beatsFrom (nI lr) (nI lc) (nI ti) (nI r) (nI k) (nI c) (nI g) (nI s) r k G k c H = some (nI (yFrom r c s lr lc (ySt k (yIdle g r G c H)) ti)) := by
  obtain ⟨g1, g2, g3, g4, g5, g6⟩ := yGeo J Y
  have J0 := J
  have Y0 := Y
  obtain ⟨⟨a1, a2⟩, ⟨a3, a4⟩, ⟨a5, a6⟩, a7, a8⟩ := J
  obtain ⟨⟨b1, b2⟩, b3, b4⟩ := Y
  unfold fX9_beatsFrom
  refine bto (e_columns a8) ?_
  refine bto (e_w b4) ?_
  refine bto (e_tiles (by omega) (by omega) g2.1) ?_
  have hw : yTl (c + s) (yPop lc) = yWd c s lc := rfl
  rw [hw]
  refine bto (wl_eq (fun i => (nI (ySm (i - ti) (fun d => yTb r c s lr lc (ySt k (yIdle g r G c H)) (ti + d))), nI i)) ti (yNt r c s lr lc) (b := (nI (yFrom r c s lr lc (ySt k (yIdle g r G c H)) ti), nI (yNt r c s lr lc))) ?_ h (by omega) (fun i hi0 hi => ?_) ?_) rfl
  · show (nI 0, nI ti) = _
    rw [Nat.sub_self]
    rfl
  · refine bto (e_rows a8) ?_
    refine bto (e_h b2) ?_
    refine bto (e_tiles (by omega) (by omega) g1.1) ?_
    rw [nj_mul]
    have hn : yTl (r + s) (yPop lr) * yWd c s lc = yNt r c s lr lc := rfl
    rw [hn]
    refine (if_neg (fun z => ?_)).trans ?_
    · rw [nj_le (by omega) (by omega)] at z
      omega
    have u := yTr_of J0 Y0 hi
    have v := yTc_of i J0 Y0
    have w0 : ¬ nI (yWd c s lc) = 0 := fun z => by
      rw [li0, nj_eq (by omega) (by decide)] at z
      omega
    refine bto (e_rows a8) ?_
    refine bto (e_h b2) ?_
    refine (if_pos w0).trans ?_
    dsimp only
    rw [mod_nI (by omega) (by omega), nj_div (by omega) (by omega)]
    refine bto (e_size (by omega) (by omega) (by omega)) ?_
    refine bto (e_columns a8) ?_
    refine bto (e_w b4) ?_
    refine (if_pos w0).trans ?_
    refine bto (e_size (by omega) (by omega) (by omega)) ?_
    refine bto (e_steps a7 (by omega) (by omega) a3 a4 (Nat.le_refl _) (Nat.le_refl _)) ?_
    have st := ySt_of (k := k) (yIdle g r G c H) (by omega) a3
    have eT : ySz (r + s) (yPop lr) (i / yWd c s lc) + ySz (c + s) (yPop lc) (i % yWd c s lc) + ySt k (yIdle g r G c H) - 1 = yTb r c s lr lc (ySt k (yIdle g r G c H)) i := rfl
    have e1 : i + 1 - ti = (i - ti) + 1 := by omega
    have e2 : ti + (i - ti) = i := by omega
    rw [nj_add, nj_add, li1, nj_sub (by omega), eT, nj_add, nj_add, e1]
    show _ = some (Sum.inl (nI (ySm (i - ti) _ + yTb r c s lr lc (ySt k (yIdle g r G c H)) (ti + (i - ti))), nI (i + 1)))
    rw [e2]
  · refine bto (e_rows a8) ?_
    refine bto (e_h b2) ?_
    refine bto (e_tiles (by omega) (by omega) g1.1) ?_
    rw [nj_mul]
    have hn : yTl (r + s) (yPop lr) * yWd c s lc = yNt r c s lr lc := rfl
    rw [hn]
    exact if_pos (by rw [nj_le (by omega) (by omega)]; exact Nat.le_refl _)
theorem yTb_of {r k c g s lr lc ti st : Nat} (J : yJob r k c g s) (Y : yLay lr lc) (h : ti < yNt r c s lr lc) (h1 : 1 ≤ st) (h2 : st ≤ 6) : 2 ≤ yTb r c s lr lc st ti ∧ yTb r c s lr lc st ti ≤ 15 := by
  have u := yTr_of J Y h
  have v := yTc_of ti J Y
  have gg := yGeo J Y
  unfold yTb
  omega
theorem yFrom_le {r k c g s lr lc ti st : Nat} (J : yJob r k c g s) (Y : yLay lr lc) (h1 : 1 ≤ st) (h2 : st ≤ 6) : yFrom r c s lr lc st ti ≤ 1215 := by
  have gg := yGeo J Y
  unfold yFrom
  have := ySm_le (n := yNt r c s lr lc - ti) (f := fun d => yTb r c s lr lc st (ti + d)) (b := 15) (fun d hd => (yTb_of J Y (by omega) h1 h2).2)
  have : (yNt r c s lr lc - ti) * 15 ≤ 81 * 15 := Nat.mul_le_mul (by omega) (Nat.le_refl _)
  omega
theorem e_stepTaken {k g r c b i j : Nat} {G H : Nat → Nat → Int32} (hg : g ≤ 2) (hr : r ≤ 9) (hc : c ≤ 9) (hk : 1 ≤ k) (hk6 : k ≤ 6) (hb : b < 1000) (hi : i < 10) (hj : j < 10) : fX9_stepTaken (nI k) (nI g) r k G k c H (nI b) (nI i) (nI j) = some (if i + j ≤ b ∧ b - i - j < ySt k (yIdle g r G c H) then nI (b - i - j) else -1) := by
  unfold fX9_stepTaken
  refine bto (e_steps hg hr hc hk hk6 (Nat.le_refl _) (Nat.le_refl _)) ?_
  have st := ySt_of (k := k) (yIdle g r G c H) (by omega) hk
  generalize ySt k (yIdle g r G c H) = q at st ⊢
  have tb := yi_nI (n := b) (by omega)
  have ti := yi_nI (n := i) (by omega)
  have tj := yi_nI (n := j) (by omega)
  have tq := yi_nI (n := q) (by omega)
  have l0 : Int32.toInt 0 = 0 := by decide
  have l1 : Int32.toInt 1 = 1 := by decide
  have v1 : (nI b - nI i).toInt = (b : Int) - i := by rw [yi_sub (by omega) (by omega), tb, ti]
  have v2 : (nI b - nI i - nI j).toInt = (b : Int) - i - j := by rw [yi_sub (by omega) (by omega), v1, tj]
  have v3 : (nI q - 1).toInt = (q : Int) - 1 := by rw [yi_sub (by omega) (by omega), tq, l1]
  obtain ⟨x, hx, hp⟩ := o_X9_isIn (i1 := nI b - nI i - nI j) (i2 := 0) (i3 := nI q - 1)
  refine bto hx ?_
  rw [v2, v3, l0] at hp
  rcases hp with ⟨rfl, hp⟩ | ⟨rfl, hp⟩
  · rw [if_pos rfl, if_neg (by omega)]
  · rw [if_neg (by decide), if_pos (by omega), nj_sub (by omega), nj_sub (by omega)]
theorem e_used : ∀ k, k < 7 → ∀ m, m < 2 ^ k → (nI m ^^^ (-1)) &&& (((1 : Int32) <<< (nI k &&& 31)) - 1) = nI (2 ^ k - 1 - m) := by decide +kernel
theorem yPop_used : ∀ k, k < 7 → ∀ m, m < 2 ^ k → yPop (2 ^ k - 1 - m) = k - yPop m := by decide +kernel
def yUs (k : Nat) (p : Nat → Bool) : Nat := 2 ^ k - 1 - ySk k p
theorem yUs_of {k : Nat} (p : Nat → Bool) (h : k < 7) : yUs k p < 2 ^ k ∧ yUs k p < 64 ∧ yPop (yUs k p) = ySt k p := by
  have h1 := ySk_lt (k := k) p
  have h2 := sk_p2 k h
  unfold yUs ySt
  exact ⟨by omega, by omega, yPop_used k h _ h1⟩
theorem e_oneB (x : Int32) : fX9_one x = some (yb (!decide (x = 0))) := by
  unfold fX9_one
  exact yb_iten _
/-- what the cell of the row i and the column j of the tile does in a beat -/
def yCell (r k c g s lr lc : Nat) (G H B : Nat → Nat → Int32) (ti go i j : Nat) (z : Int64 × (Nat → Nat → Int32) × (Nat → Nat → Int32)) : Int64 × (Nat → Nat → Int32) × (Nat → Nat → Int32) := if i + j ≤ go ∧ go - i - j < ySt k (yIdle g r G c H) then (z.1 + 1, upg z.2.1 (yNth lr i) (yNth lc j) (z.2.1 (yNth lr i) (yNth lc j) + 1), upg z.2.2 (yNth lr i) (yNth lc j) (yWith g (z.2.2 (yNth lr i) (yNth lc j)) (yA r r G (ti / yWd c s lc * yPop lr + i) (yNth (yUs k (yIdle g r G c H)) (go - i - j))) (yBt c c H (yNth (yUs k (yIdle g r G c H)) (go - i - j)) (ti % yWd c s lc * yPop lc + j)) + yb (!decide (B (yNth lr i) (yNth lc j) = 0)))) else z
def yWrow (r k c g s lr lc : Nat) (G H B : Nat → Nat → Int32) (ti go i n : Nat) (z : Int64 × (Nat → Nat → Int32) × (Nat → Nat → Int32)) : Int64 × (Nat → Nat → Int32) × (Nat → Nat → Int32) := yFold n (fun j z => yCell r k c g s lr lc G H B ti go i j z) z
def yWave (r k c g s lr lc : Nat) (G H B : Nat → Nat → Int32) (ti go m : Nat) (z : Int64 × (Nat → Nat → Int32) × (Nat → Nat → Int32)) : Int64 × (Nat → Nat → Int32) × (Nat → Nat → Int32) := yFold m (fun i z => yWrow r k c g s lr lc G H B ti go i (yTc c s lc ti) z) z
def yDrow (lr lc top left : Nat) (S : Nat → Nat → Int32) (i n : Nat) (D : Nat → Nat → Int32) : Nat → Nat → Int32 := yFold n (fun j D => upg D (top + i) (left + j) (S (yNth lr i) (yNth lc j))) D
def yDrain (lr lc top left : Nat) (S : Nat → Nat → Int32) (m n : Nat) (D : Nat → Nat → Int32) : Nat → Nat → Int32 := yFold m (fun i D => yDrow lr lc top left S i n D) D
