/-! ===== beats of the reference, exactly ===== -/
theorem nj_in2 {a n : Nat} (h : a < n) (h2 : a < 2147483648) : ¬ (nI a < 0 ∨ n ≤ a) := by
  rw [nj_neg h2, false_or]
  omega
def yD0 (ti : Nat) (D : Nat → Nat → Int32) : Nat → Nat → Int32 := if ti = 0 then fun _ _ => 0 else D
theorem e_drain {r k c g s lr lc ti Dn Dk : Nat} {S D : Nat → Nat → Int32} (J : yJob r k c g s) (Y : yLay lr lc) (h : ti < yNt r c s lr lc) (hD : ti = 0 ∨ (Dn = r + s ∧ Dk = c + s)) : fX9_drain (nI lr) (nI lc) (nI ti) (nI r) (nI c) (nI g) (nI s) S Dn Dk D (nI (ti / yWd c s lc * yPop lr)) (nI (ti % yWd c s lc * yPop lc)) = some (if yNt r c s lr lc ≤ ti + 1 then .inr (nI (ti + 1), nI s, r + s, c + s, yDrain lr lc (ti / yWd c s lc * yPop lr) (ti % yWd c s lc * yPop lc) S (yTr r c s lr lc ti) (yTc c s lc ti) (yD0 ti D)) else .inl (nI (ti + 1), 0, yFill g S, r + s, c + s, yDrain lr lc (ti / yWd c s lc * yPop lr) (ti % yWd c s lc * yPop lc) S (yTr r c s lr lc ti) (yTc c s lc ti) (yD0 ti D))) := by
  obtain ⟨g1, g2, g3, g4, g5, g6⟩ := yGeo J Y
  have u := yTr_of J Y h
  have v := yTc_of ti J Y
  obtain ⟨⟨a1, a2⟩, ⟨a3, a4⟩, ⟨a5, a6⟩, a7, a8⟩ := id J
  obtain ⟨⟨b1, b2⟩, b3, b4⟩ := id Y
  have hs01 : nI s = 0 ∨ nI s = 1 := by
    rcases (show s = 0 ∨ s = 1 by omega) with rfl | rfl
    · exact Or.inl rfl
    · exact Or.inr rfl
  unfold fX9_drain
  by_cases h0 : ti = 0
  · refine (if_pos (by rw [h0]; rfl)).trans ?_
    refine bto (e_rows a8) ?_
    refine bto (e_columns a8) ?_
    have k1 := nj_cl (a := r + s) (by omega)
    have k2 := nj_cl (a := c + s) (by omega)
    rw [k1, k2]
    refine (if_pos ⟨fun z => by rw [nj_neg (by omega)] at z; exact z, fun z => by rw [nj_neg (by omega)] at z; exact z, by omega, by omega⟩).trans ?_
    refine bto (wl_eq (fun i => (nI i, yDrain lr lc (ti / yWd c s lc * yPop lr) (ti % yWd c s lc * yPop lc) S i (yTc c s lc ti) (yD0 ti D))) 0 (yTr r c s lr lc ti) (b := (nI (yTr r c s lr lc ti), yDrain lr lc (ti / yWd c s lc * yPop lr) (ti % yWd c s lc * yPop lc) S (yTr r c s lr lc ti) (yTc c s lc ti) (yD0 ti D))) ?_ (Nat.zero_le _) (by omega) (fun i _ hi => ?_) ?_) ?_
    · have e : yD0 ti D = fun _ _ => 0 := if_pos h0
      rw [e]
      rfl
    · refine bto (e_tileRows J Y h) ?_
      refine (if_neg (fun z => ?_)).trans ?_
      · rw [nj_le (by omega) (by omega)] at z
        omega
      refine bto (wl_eq (fun j => (nI j, yDrow lr lc (ti / yWd c s lc * yPop lr) (ti % yWd c s lc * yPop lc) S i j (yDrain lr lc (ti / yWd c s lc * yPop lr) (ti % yWd c s lc * yPop lc) S i (yTc c s lc ti) (yD0 ti D)))) 0 (yTc c s lc ti) (b := (nI (yTc c s lc ti), yDrain lr lc (ti / yWd c s lc * yPop lr) (ti % yWd c s lc * yPop lc) S (i + 1) (yTc c s lc ti) (yD0 ti D))) rfl (Nat.zero_le _) (by omega) (fun j _ hj => ?_) ?_) ?_
      · refine bto (e_tileColumns J Y (by omega)) ?_
        refine (if_neg (fun z => ?_)).trans ?_
        · rw [nj_le (by omega) (by omega)] at z
          omega
        have n1 := yNth_lt lr Y.1.2 i (by omega)
        have n2 := yNth_lt lc Y.2.2 j (by omega)
        dsimp only
        rw [nj_add, nj_add]
        refine (if_pos (nj_in (by omega) (by omega))).trans ?_
        refine bto (e_nth lr (by omega) i (by omega)) ?_
        refine (if_pos (nj_in n1 (by omega))).trans ?_
        refine bto (e_nth lc (by omega) j (by omega)) ?_
        refine (if_pos (nj_in n2 (by omega))).trans ?_
        refine (if_pos (nj_in (by omega) (by omega))).trans ?_
        rw [nj_cl (by omega), nj_cl (by omega), nj_cl (by omega), nj_cl (by omega), nj_p1]
        rfl
      · refine bto (e_tileColumns J Y (by omega)) ?_
        exact if_pos (by rw [nj_le (by omega) (by omega)]; exact Nat.le_refl _)
      · dsimp only
        rw [nj_p1]
    · refine bto (e_tileRows J Y h) ?_
      exact if_pos (by rw [nj_le (by omega) (by omega)]; exact Nat.le_refl _)
    refine bto (e_rows a8) ?_
    refine bto (e_h Y.1.2) ?_
    refine bto (e_tiles (by omega) (by omega) g1.1) ?_
    refine bto (e_columns a8) ?_
    refine bto (e_w Y.2.2) ?_
    refine bto (e_tiles (by omega) (by omega) g2.1) ?_
    rw [nj_mul, nj_p1]
    have hn : yTl (r + s) (yPop lr) * yTl (c + s) (yPop lc) = yNt r c s lr lc := rfl
    rw [hn]
    by_cases hl : yNt r c s lr lc ≤ ti + 1
    · rw [if_pos (by rw [nj_le (by omega) (by omega)]; exact hl), if_pos hs01, if_pos hl]
    · rw [if_neg (by rw [nj_le (by omega) (by omega)]; exact hl), if_neg hl]
      refine bto (e_begin a7) ?_
      rfl
  · refine (if_neg (fun z => h0 (by rw [li0, nj_eq (by omega) (by decide)] at z; exact z))).trans ?_
    have hD : Dn = r + s ∧ Dk = c + s := hD.elim (fun z => absurd z h0) id
    obtain ⟨rfl, rfl⟩ := hD
    refine bto (wl_eq (fun i => (nI i, yDrain lr lc (ti / yWd c s lc * yPop lr) (ti % yWd c s lc * yPop lc) S i (yTc c s lc ti) (yD0 ti D))) 0 (yTr r c s lr lc ti) (b := (nI (yTr r c s lr lc ti), yDrain lr lc (ti / yWd c s lc * yPop lr) (ti % yWd c s lc * yPop lc) S (yTr r c s lr lc ti) (yTc c s lc ti) (yD0 ti D))) ?_ (Nat.zero_le _) (by omega) (fun i _ hi => ?_) ?_) ?_
    · have e : yD0 ti D = D := if_neg h0
      rw [e]
      rfl
    · refine bto (e_tileRows J Y h) ?_
      refine (if_neg (fun z => ?_)).trans ?_
      · rw [nj_le (by omega) (by omega)] at z
        omega
      refine bto (wl_eq (fun j => (nI j, yDrow lr lc (ti / yWd c s lc * yPop lr) (ti % yWd c s lc * yPop lc) S i j (yDrain lr lc (ti / yWd c s lc * yPop lr) (ti % yWd c s lc * yPop lc) S i (yTc c s lc ti) (yD0 ti D)))) 0 (yTc c s lc ti) (b := (nI (yTc c s lc ti), yDrain lr lc (ti / yWd c s lc * yPop lr) (ti % yWd c s lc * yPop lc) S (i + 1) (yTc c s lc ti) (yD0 ti D))) rfl (Nat.zero_le _) (by omega) (fun j _ hj => ?_) ?_) ?_
      · refine bto (e_tileColumns J Y (by omega)) ?_
        refine (if_neg (fun z => ?_)).trans ?_
        · rw [nj_le (by omega) (by omega)] at z
          omega
        have n1 := yNth_lt lr Y.1.2 i (by omega)
        have n2 := yNth_lt lc Y.2.2 j (by omega)
        dsimp only
        rw [nj_add, nj_add]
        refine (if_pos (nj_in (by omega) (by omega))).trans ?_
        refine bto (e_nth lr (by omega) i (by omega)) ?_
        refine (if_pos (nj_in n1 (by omega))).trans ?_
        refine bto (e_nth lc (by omega) j (by omega)) ?_
        refine (if_pos (nj_in n2 (by omega))).trans ?_
        refine (if_pos (nj_in (by omega) (by omega))).trans ?_
        rw [nj_cl (by omega), nj_cl (by omega), nj_cl (by omega), nj_cl (by omega), nj_p1]
        rfl
      · refine bto (e_tileColumns J Y (by omega)) ?_
        exact if_pos (by rw [nj_le (by omega) (by omega)]; exact Nat.le_refl _)
      · dsimp only
        rw [nj_p1]
    · refine bto (e_tileRows J Y h) ?_
      exact if_pos (by rw [nj_le (by omega) (by omega)]; exact Nat.le_refl _)
    refine bto (e_rows a8) ?_
    refine bto (e_h Y.1.2) ?_
    refine bto (e_tiles (by omega) (by omega) g1.1) ?_
    refine bto (e_columns a8) ?_
    refine bto (e_w Y.2.2) ?_
    refine bto (e_tiles (by omega) (by omega) g2.1) ?_
    rw [nj_mul, nj_p1]
    have hn : yTl (r + s) (yPop lr) * yTl (c + s) (yPop lc) = yNt r c s lr lc := rfl
    rw [hn]
    by_cases hl : yNt r c s lr lc ≤ ti + 1
    · rw [if_pos (by rw [nj_le (by omega) (by omega)]; exact hl), if_pos hs01, if_pos hl]
    · rw [if_neg (by rw [nj_le (by omega) (by omega)]; exact hl), if_neg hl]
      refine bto (e_begin a7) ?_
      rfl
abbrev yRS : Type := Int32 × Int64 × Nat × Nat × (Nat → Nat → Int32) × (Nat → Nat → Int32) × Nat × Nat × (Nat → Nat → Int32)
def yOne (r k c g s lr lc : Nat) (G H B : Nat → Nat → Int32) (be : Int32) (ta : Int64) (ti go : Nat) (U S : Nat → Nat → Int32) (Dn Dk : Nat) (D : Nat → Nat → Int32) : yRS ⊕ yRS :=
  if go + 1 = yTb r c s lr lc (ySt k (yIdle g r G c H)) ti then
    (if yNt r c s lr lc ≤ ti + 1 then .inr (be + 1, (yWave r k c g s lr lc G H B ti go (yTr r c s lr lc ti) (ta, U, S)).1, ti + 1, go + 1, (yWave r k c g s lr lc G H B ti go (yTr r c s lr lc ti) (ta, U, S)).2.1, (yWave r k c g s lr lc G H B ti go (yTr r c s lr lc ti) (ta, U, S)).2.2, r + s, c + s, yDrain lr lc (ti / yWd c s lc * yPop lr) (ti % yWd c s lc * yPop lc) (yWave r k c g s lr lc G H B ti go (yTr r c s lr lc ti) (ta, U, S)).2.2 (yTr r c s lr lc ti) (yTc c s lc ti) (yD0 ti D))
    else .inl (be + 1, (yWave r k c g s lr lc G H B ti go (yTr r c s lr lc ti) (ta, U, S)).1, ti + 1, 0, (yWave r k c g s lr lc G H B ti go (yTr r c s lr lc ti) (ta, U, S)).2.1, yFill g (yWave r k c g s lr lc G H B ti go (yTr r c s lr lc ti) (ta, U, S)).2.2, r + s, c + s, yDrain lr lc (ti / yWd c s lc * yPop lr) (ti % yWd c s lc * yPop lc) (yWave r k c g s lr lc G H B ti go (yTr r c s lr lc ti) (ta, U, S)).2.2 (yTr r c s lr lc ti) (yTc c s lc ti) (yD0 ti D)))
  else .inl (be + 1, (yWave r k c g s lr lc G H B ti go (yTr r c s lr lc ti) (ta, U, S)).1, ti, go + 1, (yWave r k c g s lr lc G H B ti go (yTr r c s lr lc ti) (ta, U, S)).2.1, (yWave r k c g s lr lc G H B ti go (yTr r c s lr lc ti) (ta, U, S)).2.2, Dn, Dk, D)
def yCs (s : Nat) (o : yRS ⊕ yRS) : (Int32 × Int64 × Int32 × Int32 × (Nat → Nat → Int32) × (Nat → Nat → Int32) × Nat × Nat × (Nat → Nat → Int32)) ⊕ (Int32 × Int64 × Int32 × Int32 × Int32 × (Nat → Nat → Int32) × (Nat → Nat → Int32) × Nat × Nat × (Nat → Nat → Int32)) := match o with
  | .inl (be, ta, ti, go, U, S, Dn, Dk, D) => .inl (be, ta, nI ti, nI go, U, S, Dn, Dk, D)
  | .inr (be, ta, ti, go, U, S, Dn, Dk, D) => .inr (be, ta, nI ti, nI go, nI s, U, S, Dn, Dk, D)
theorem e_one_ {r k c g s lr lc ti go Dn Dk : Nat} {be : Int32} {ta : Int64} {G H B U S D : Nat → Nat → Int32} (J : yJob r k c g s) (Y : yLay lr lc) (h : ti < yNt r c s lr lc) (hgo : go < 1000) (hD : ti = 0 ∨ (Dn = r + s ∧ Dk = c + s)) : fX9_one_ be ta (nI lr) (nI lc) (nI ti) (nI go) (nI r) (nI k) (nI c) (nI g) (nI s) r k G k c H B U S Dn Dk D = some (yCs s (yOne r k c g s lr lc G H B be ta ti go U S Dn Dk D)) := by
  obtain ⟨g1, g2, g3, g4, g5, g6⟩ := yGeo J Y
  have u := yTr_of J Y h
  have v := yTc_of ti J Y
  obtain ⟨⟨a1, a2⟩, ⟨a3, a4⟩, ⟨a5, a6⟩, a7, a8⟩ := id J
  obtain ⟨⟨b1, b2⟩, b3, b4⟩ := id Y
  have us := yUs_of (k := k) (yIdle g r G c H) (by omega)
  have st := ySt_of (k := k) (yIdle g r G c H) (by omega) a3
  have sk := ySk_lt (k := k) (yIdle g r G c H)
  have hw : yTl (c + s) (yPop lc) = yWd c s lc := rfl
  have w0 : ¬ nI (yWd c s lc) = 0 := fun z => by
    rw [li0, nj_eq (by omega) (by decide)] at z
    omega
  unfold fX9_one_
  refine bto (e_skipped a7 (by omega) (by omega) a3 a4 (Nat.le_refl _) (Nat.le_refl _)) ?_
  unfold ylet
  rw [e_used k (by omega) _ sk]
  have hus : 2 ^ k - 1 - ySk k (yIdle g r G c H) = yUs k (yIdle g r G c H) := rfl
  rw [hus]
  refine bto (e_columns a8) ?_
  refine bto (e_w Y.2.2) ?_
  refine bto (e_tiles (by omega) (by omega) g2.1) ?_
  rw [hw]
  refine (if_pos w0).trans ?_
  refine bto (e_h Y.1.2) ?_
  refine bto (e_columns a8) ?_
  refine bto (e_w Y.2.2) ?_
  refine bto (e_tiles (by omega) (by omega) g2.1) ?_
  rw [hw]
  refine (if_pos w0).trans ?_
  refine bto (e_w Y.2.2) ?_
  rw [mod_nI (by omega) (by omega), nj_div (by omega) (by omega), nj_mul, nj_mul]
  refine bto (wl_eq (fun i => (nI i, (yWave r k c g s lr lc G H B ti go i (ta, U, S)).1, (yWave r k c g s lr lc G H B ti go i (ta, U, S)).2.1, (yWave r k c g s lr lc G H B ti go i (ta, U, S)).2.2)) 0 (yTr r c s lr lc ti) (b := (nI (yTr r c s lr lc ti), (yWave r k c g s lr lc G H B ti go (yTr r c s lr lc ti) (ta, U, S)).1, (yWave r k c g s lr lc G H B ti go (yTr r c s lr lc ti) (ta, U, S)).2.1, (yWave r k c g s lr lc G H B ti go (yTr r c s lr lc ti) (ta, U, S)).2.2)) rfl (Nat.zero_le _) (by omega) (fun i _ hi => ?_) ?_) ?_
  · refine bto (e_tileRows J Y h) ?_
    refine (if_neg (fun z => ?_)).trans ?_
    · rw [nj_le (by omega) (by omega)] at z
      omega
    have hW : yWave r k c g s lr lc G H B ti go (i + 1) (ta, U, S) = yWrow r k c g s lr lc G H B ti go i (yTc c s lc ti) (yWave r k c g s lr lc G H B ti go i (ta, U, S)) := rfl
    rw [hW]
    generalize yWave r k c g s lr lc G H B ti go i (ta, U, S) = w
    refine bto (wl_eq (fun j => (nI j, (yWrow r k c g s lr lc G H B ti go i j w).1, (yWrow r k c g s lr lc G H B ti go i j w).2.1, (yWrow r k c g s lr lc G H B ti go i j w).2.2)) 0 (yTc c s lc ti) (b := (nI (yTc c s lc ti), (yWrow r k c g s lr lc G H B ti go i (yTc c s lc ti) w).1, (yWrow r k c g s lr lc G H B ti go i (yTc c s lc ti) w).2.1, (yWrow r k c g s lr lc G H B ti go i (yTc c s lc ti) w).2.2)) rfl (Nat.zero_le _) (by omega) (fun j _ hj => ?_) ?_) ?_
    · refine bto (e_tileColumns J Y (by omega)) ?_
      refine (if_neg (fun z => ?_)).trans ?_
      · rw [nj_le (by omega) (by omega)] at z
        omega
      have hR : yWrow r k c g s lr lc G H B ti go i (j + 1) w = yCell r k c g s lr lc G H B ti go i j (yWrow r k c g s lr lc G H B ti go i j w) := rfl
      rw [hR]
      generalize yWrow r k c g s lr lc G H B ti go i j w = q
      have n1 := yNth_lt lr Y.1.2 i (by omega)
      have n2 := yNth_lt lc Y.2.2 j (by omega)
      refine bto (e_stepTaken a7 (by omega) (by omega) a3 a4 hgo (by omega) (by omega)) ?_
      by_cases hs : i + j ≤ go ∧ go - i - j < ySt k (yIdle g r G c H)
      · have n3 := yNth_k k (by omega) _ us.1 (go - i - j) (by rw [us.2.2]; exact hs.2)
        have hC : yCell r k c g s lr lc G H B ti go i j q = _ := if_pos hs
        rw [hC, if_pos hs]
        refine (if_neg (fun z => by rw [nj_m1 (by omega)] at z; exact z)).trans ?_
        refine bto (e_nth _ us.2.1 (go - i - j) (by rw [us.2.2]; exact hs.2)) ?_
        refine bto (e_nth lr (by omega) i (by omega)) ?_
        refine bto (e_nth lc (by omega) j (by omega)) ?_
        refine (if_pos (nj_in n1 (by omega))).trans ?_
        refine (if_pos (nj_in n1 (by omega))).trans ?_
        refine (if_pos (nj_in n2 (by omega))).trans ?_
        dsimp only
        rw [nj_add, nj_add, nj_cl (by omega), nj_cl (by omega)]
        refine bto (e_a (by omega) (by omega) (by omega) (by omega) (by omega) (by omega)) ?_
        refine bto (e_b (by omega) (by omega) (by omega) (by omega) (by omega) (by omega)) ?_
        refine bto (e_with a7 _ _ _) ?_
        refine (if_pos (nj_in2 n1 (by omega))).trans ?_
        refine (if_pos (nj_in2 n2 (by omega))).trans ?_
        refine bto (e_oneB _) ?_
        rw [nj_p1]
        simp only [nj_neg (show yNth lr i < 2147483648 by omega), nj_neg (show yNth lc j < 2147483648 by omega), false_or, Nat.not_le.mpr n1, Nat.not_le.mpr n2, not_false_eq_true, if_true]
      · have hC : yCell r k c g s lr lc G H B ti go i j q = q := if_neg hs
        rw [hC, if_neg hs]
        refine (if_pos rfl).trans ?_
        dsimp only
        rw [nj_p1]
    · refine bto (e_tileColumns J Y (by omega)) ?_
      exact if_pos (by rw [nj_le (by omega) (by omega)]; exact Nat.le_refl _)
    · dsimp only
      rw [nj_p1]
  · refine bto (e_tileRows J Y h) ?_
    exact if_pos (by rw [nj_le (by omega) (by omega)]; exact Nat.le_refl _)
  refine bto (e_tileBeats J Y h) ?_
  have tb := yTb_of J Y h st.1 (by omega)
  unfold yOne
  dsimp only
  rw [nj_p1]
  by_cases hb : go + 1 = yTb r c s lr lc (ySt k (yIdle g r G c H)) ti
  · rw [if_pos (congrArg nI hb), if_pos hb]
    refine bto (e_drain (k := k) J Y h hD) ?_
    by_cases hl : yNt r c s lr lc ≤ ti + 1
    · rw [if_pos hl, if_pos hl]
      rfl
    · rw [if_neg hl, if_neg hl]
      rfl
  · rw [if_neg (fun z => hb ((nj_eq (by omega) (by omega)).mp z)), if_neg hb]
    rfl
def yRI (r k c g s lr lc st : Nat) (z : yRS) : Prop := z.2.2.1 < yNt r c s lr lc ∧ z.2.2.2.1 < yTb r c s lr lc st z.2.2.1 ∧ (z.2.2.1 = 0 ∨ (z.2.2.2.2.2.2.1 = r + s ∧ z.2.2.2.2.2.2.2.1 = c + s))
def yOneZ (r k c g s lr lc : Nat) (G H B : Nat → Nat → Int32) (z : yRS) : yRS ⊕ yRS := yOne r k c g s lr lc G H B z.1 z.2.1 z.2.2.1 z.2.2.2.1 z.2.2.2.2.1 z.2.2.2.2.2.1 z.2.2.2.2.2.2.1 z.2.2.2.2.2.2.2.1 z.2.2.2.2.2.2.2.2
theorem yOne_inv {r k c g s lr lc : Nat} {G H B : Nat → Nat → Int32} {z : yRS} (J : yJob r k c g s) (Y : yLay lr lc) (h : yRI r k c g s lr lc (ySt k (yIdle g r G c H)) z) : (∃ q, yOneZ r k c g s lr lc G H B z = .inl q ∧ yRI r k c g s lr lc (ySt k (yIdle g r G c H)) q ∧ ((q.2.2.1 = z.2.2.1 ∧ q.2.2.2.1 = z.2.2.2.1 + 1) ∨ (q.2.2.1 = z.2.2.1 + 1 ∧ q.2.2.2.1 = 0 ∧ z.2.2.2.1 + 1 = yTb r c s lr lc (ySt k (yIdle g r G c H)) z.2.2.1))) ∨ ∃ q, yOneZ r k c g s lr lc G H B z = .inr q ∧ q.2.2.2.2.2.2.1 = r + s ∧ q.2.2.2.2.2.2.2.1 = c + s ∧ z.2.2.1 + 1 = yNt r c s lr lc ∧ z.2.2.2.1 + 1 = yTb r c s lr lc (ySt k (yIdle g r G c H)) z.2.2.1 := by
  obtain ⟨be, ta, ti, go, U, S, Dn, Dk, D⟩ := z
  obtain ⟨h1, h2, h3⟩ := h
  dsimp only at h1 h2 h3
  obtain ⟨⟨a1, a2⟩, ⟨a3, a4⟩, ⟨a5, a6⟩, a7, a8⟩ := id J
  have st := ySt_of (k := k) (yIdle g r G c H) (by omega) a3
  unfold yOneZ yOne
  dsimp only
  by_cases hb : go + 1 = yTb r c s lr lc (ySt k (yIdle g r G c H)) ti
  · rw [if_pos hb]
    by_cases hl : yNt r c s lr lc ≤ ti + 1
    · rw [if_pos hl]
      exact Or.inr ⟨_, rfl, rfl, rfl, by omega, hb⟩
    · rw [if_neg hl]
      have tb := yTb_of (st := ySt k (yIdle g r G c H)) J Y (ti := ti + 1) (by omega) st.1 (by omega)
      exact Or.inl ⟨_, rfl, ⟨by show ti + 1 < _; omega, by show 0 < yTb r c s lr lc _ (ti + 1); omega, Or.inr ⟨rfl, rfl⟩⟩, Or.inr ⟨rfl, rfl, hb⟩⟩
  · rw [if_neg hb]
    exact Or.inl ⟨_, rfl, ⟨h1, by show go + 1 < yTb r c s lr lc (ySt k (yIdle g r G c H)) ti; omega, h3⟩, Or.inl ⟨rfl, rfl⟩⟩
def yRun (r k c g s lr lc : Nat) (G H B : Nat → Nat → Int32) (z : yRS) : Nat → yRS ⊕ yRS
  | 0 => .inl z
  | n + 1 => match yRun r k c g s lr lc G H B z n with
    | .inl q => yOneZ r k c g s lr lc G H B q
    | .inr q => .inr q
theorem yRun_end {r k c g s lr lc : Nat} {G H B : Nat → Nat → Int32} {z q : yRS} {i : Nat} (h : yRun r k c g s lr lc G H B z i = .inr q) (d : Nat) : yRun r k c g s lr lc G H B z (i + d) = .inr q := by
  induction d with
  | zero => exact h
  | succ d ih =>
    show (match yRun r k c g s lr lc G H B z (i + d) with
      | .inl q => yOneZ r k c g s lr lc G H B q
      | .inr q => .inr q) = Sum.inr q
    rw [ih]
theorem yFrom_step {r c s lr lc st ti : Nat} (h : ti < yNt r c s lr lc) : yFrom r c s lr lc st ti = yTb r c s lr lc st ti + yFrom r c s lr lc st (ti + 1) := by
  unfold yFrom
  obtain ⟨n, hn⟩ : ∃ n, yNt r c s lr lc - ti = n + 1 := ⟨yNt r c s lr lc - ti - 1, by omega⟩
  have hn2 : yNt r c s lr lc - (ti + 1) = n := by omega
  rw [hn, hn2]
  clear hn hn2 h
  induction n with
  | zero =>
    show ySm 0 _ + yTb r c s lr lc st (ti + 0) = _
    show 0 + yTb r c s lr lc st ti = yTb r c s lr lc st ti + 0
    omega
  | succ n ih =>
    show ySm (n + 1) _ + yTb r c s lr lc st (ti + (n + 1)) = yTb r c s lr lc st ti + (ySm n _ + yTb r c s lr lc st (ti + 1 + n))
    rw [ih]
    have e : ti + (n + 1) = ti + 1 + n := by omega
    rw [e]
    omega
theorem e_rest {r k c g s lr lc ti go : Nat} {G H : Nat → Nat → Int32} (J : yJob r k c g s) (Y : yLay lr lc) (h : ti < yNt r c s lr lc) (h2 : go < yTb r c s lr lc (ySt k (yIdle g r G c H)) ti) : fX9_rest_r (nI lr) (nI lc) (nI ti) (nI go) (nI r) (nI k) (nI c) (nI g) (nI s) r k G k c H = some (nI (yFrom r c s lr lc (ySt k (yIdle g r G c H)) ti - go)) := by
  unfold fX9_rest_r
  refine bto (e_beatsFrom J Y (by omega)) ?_
  have := yFrom_step (st := ySt k (yIdle g r G c H)) h
  rw [nj_sub (by omega)]
def yBeatR (s : Nat) (lft : yRS → Nat) (o : yRS ⊕ yRS) : (Int32 × Int32 × Int32 × Int64 × Int32 × Int32 × (Nat → Nat → Int32) × (Nat → Nat → Int32) × Nat × Nat × (Nat → Nat → Int32)) ⊕ (Int32 × Int32 × Int32 × Int64 × Int32 × Int32 × Int32 × (Nat → Nat → Int32) × (Nat → Nat → Int32) × Nat × Nat × (Nat → Nat → Int32)) := match o with
  | .inl q => .inl (nI (lft q), 0, q.1, q.2.1, nI q.2.2.1, nI q.2.2.2.1, q.2.2.2.2.1, q.2.2.2.2.2.1, q.2.2.2.2.2.2.1, q.2.2.2.2.2.2.2.1, q.2.2.2.2.2.2.2.2)
  | .inr q => .inr (0, 0, q.1, q.2.1, nI q.2.2.1, nI q.2.2.2.1, nI s, q.2.2.2.2.1, q.2.2.2.2.2.1, q.2.2.2.2.2.2.1, q.2.2.2.2.2.2.2.1, q.2.2.2.2.2.2.2.2)
theorem e_beat {r k c g s lr lc : Nat} {G H B : Nat → Nat → Int32} {z : yRS} {i1 : Int32} (J : yJob r k c g s) (Y : yLay lr lc) (hz : yRI r k c g s lr lc (ySt k (yIdle g r G c H)) z) : Ok (fX9_beat_r z.1 z.2.1 (nI lr) (nI lc) (nI z.2.2.1) (nI z.2.2.2.1) (nI r) (nI k) (nI c) (nI g) (nI s) r k G k c H B z.2.2.2.2.1 z.2.2.2.2.2.1 z.2.2.2.2.2.2.1 z.2.2.2.2.2.2.2.1 z.2.2.2.2.2.2.2.2 i1) (fun o => (¬ (1 ≤ i1.toInt ∧ i1.toInt ≤ 300) ∧ o = .inl (0, 1, z.1, z.2.1, nI z.2.2.1, nI z.2.2.2.1, z.2.2.2.2.1, z.2.2.2.2.2.1, z.2.2.2.2.2.2.1, z.2.2.2.2.2.2.2.1, z.2.2.2.2.2.2.2.2)) ∨ ((1 ≤ i1.toInt ∧ i1.toInt ≤ 300) ∧ o = yBeatR s (fun q => yFrom r c s lr lc (ySt k (yIdle g r G c H)) q.2.2.1 - q.2.2.2.1) (yRun r k c g s lr lc G H B z i1.toNatClampNeg) ∧ ∀ q, yRun r k c g s lr lc G H B z i1.toNatClampNeg = .inl q → yRI r k c g s lr lc (ySt k (yIdle g r G c H)) q)) := by
  obtain ⟨⟨a1, a2⟩, ⟨a3, a4⟩, ⟨a5, a6⟩, a7, a8⟩ := id J
  have st := ySt_of (k := k) (yIdle g r G c H) (by omega) a3
  have l1 : Int32.toInt 1 = 1 := by decide
  have l300 : Int32.toInt 300 = 300 := by decide
  unfold fX9_beat_r
  refine Ok.bind o_X9_isIn (fun x_1 h_x_1 => ?_)
  rw [l1, l300] at h_x_1
  have f1 := yi_bs h_x_1
  refine Ok.to (yb_ite (x_1 = 0)) ?_
  refine Ok.bind (o_X9_start_r (by decide)) (fun x_7 h_x_7 => ?_)
  have f7 := yi_st h_x_7
  rw [yb_0, decide_eq_false_iff_not] at f7
  refine Ok.ite (fun c1 => ?_) (fun c1 => ?_)
  · have f8 := f7.1 c1
    have hv : 1 ≤ i1.toInt ∧ i1.toInt ≤ 300 := f1.2 f8.1
    rw [f8.2]
    refine Ok.bind (o_X9_refuse_r rfl (by decide)) (fun x_12 h_x_12 => ?_)
    have h12 : x_12 = (0, 0) := by
      rcases h_x_12 with ⟨-, e⟩ | ⟨e, -⟩
      · exact e
      · exact absurd rfl e
    subst h12
    refine Ok.ite (fun _ => ?_) (fun e => absurd rfl e)
    obtain ⟨n, hn, hn1, hn2⟩ : ∃ n : Nat, i1 = nI n ∧ 1 ≤ n ∧ n ≤ 300 := ⟨i1.toInt.toNat, nj_to (by omega), by omega, by omega⟩
    subst hn
    rw [nj_cl (by omega)]
    refine Ok.mono (P := fun o => o = yBeatR s (fun q => yFrom r c s lr lc (ySt k (yIdle g r G c H)) q.2.2.1 - q.2.2.2.1) (yRun r k c g s lr lc G H B z n) ∧ ∀ q, yRun r k c g s lr lc G H B z n = .inl q → yRI r k c g s lr lc (ySt k (yIdle g r G c H)) q) ?_ (fun o ho => Or.inr ⟨hv, ho⟩)
    refine Ok.bind (Ok.for (P := fun b => (∃ q cl sl, yRun r k c g s lr lc G H B z n = .inl q ∧ yRI r k c g s lr lc (ySt k (yIdle g r G c H)) q ∧ cl ≤ 150 ∧ sl ≤ 1350 ∧ b = .inl (nI n, q.1, q.2.1, nI q.2.2.1, nI q.2.2.2.1, q.2.2.2.2.1, q.2.2.2.2.2.1, q.2.2.2.2.2.2.1, q.2.2.2.2.2.2.2.2, q.2.2.2.2.2.2.2.1, cl, sl)) ∨ ∃ q, yRun r k c g s lr lc G H B z n = .inr q ∧ b = .inr (.inr (0, 0, q.1, q.2.1, nI q.2.2.1, nI q.2.2.2.1, nI s, q.2.2.2.2.1, q.2.2.2.2.2.1, q.2.2.2.2.2.2.1, q.2.2.2.2.2.2.2.1, q.2.2.2.2.2.2.2.2)))
      (fun i y => ∃ q cl, yRun r k c g s lr lc G H B z i = .inl q ∧ yRI r k c g s lr lc (ySt k (yIdle g r G c H)) q ∧ (q.2.2.1 = 0 → cl ≤ 10 * q.2.2.2.1) ∧ cl ≤ 150 ∧ y = (nI i, q.1, q.2.1, nI q.2.2.1, nI q.2.2.2.1, q.2.2.2.2.1, q.2.2.2.2.2.1, q.2.2.2.2.2.2.1, q.2.2.2.2.2.2.2.2, q.2.2.2.2.2.2.2.1, cl, 9 * cl)) 0 n ⟨z, 0, rfl, hz, fun _ => Nat.zero_le _, Nat.zero_le _, rfl⟩ (Nat.zero_le _) (by omega) (fun i y _ hi hI => ?_) (fun y hI => ?_)) (fun b hb => ?_)
    · obtain ⟨q, cl, e1, e2, e3, e4, rfl⟩ := hI
      dsimp only
      refine Ok.grd ⟨by omega, by omega⟩ ?_
      refine Ok.ite (fun e => absurd e (by rw [nj_le (by omega) (by omega)]; omega)) (fun _ => ?_)
      have tb := yTb_of J Y e2.1 st.1 (by omega)
      refine Ok.to (e_one_ J Y e2.1 (by have := e2.2.1; omega) e2.2.2) ?_
      have hS : yRun r k c g s lr lc G H B z (i + 1) = yOneZ r k c g s lr lc G H B q := by
        show (match yRun r k c g s lr lc G H B z i with
          | .inl q => yOneZ r k c g s lr lc G H B q
          | .inr q => .inr q) = _
        rw [e1]
      have hO : yOne r k c g s lr lc G H B q.1 q.2.1 q.2.2.1 q.2.2.2.1 q.2.2.2.2.1 q.2.2.2.2.2.1 q.2.2.2.2.2.2.1 q.2.2.2.2.2.2.2.1 q.2.2.2.2.2.2.2.2 = yOneZ r k c g s lr lc G H B q := rfl
      have e5 := e2.2.1
      have hz0 : (nI q.2.2.1 = 0) = (q.2.2.1 = 0) := by rw [li0, nj_eq (by have := e2.1; have := yGeo J Y; omega) (by decide)]
      have hadd : ∃ cl2, cl + (if nI q.2.2.1 = 0 then 10 else 0) = cl2 ∧ 9 * cl + (if nI q.2.2.1 = 0 then 90 else 0) = 9 * cl2 ∧ cl2 ≤ 150 ∧ (q.2.2.1 = 0 → cl2 ≤ 10 * (q.2.2.2.1 + 1)) := by
        by_cases h0 : q.2.2.1 = 0
        · have e6 := e3 h0
          have h9 := hz0.mpr h0
          rw [if_pos h9, if_pos h9]
          exact ⟨_, rfl, by omega, by omega, fun _ => by omega⟩
        · have h9 : ¬ nI q.2.2.1 = 0 := fun z => h0 (hz0.mp z)
          rw [if_neg h9, if_neg h9]
          exact ⟨_, rfl, by omega, by omega, fun z => absurd z h0⟩
      obtain ⟨cl2, d1, d2, d3, d4⟩ := hadd
      rw [hO, d1, d2]
      refine Ok.grd ⟨by omega, by omega⟩ ?_
      rcases yOne_inv (B := B) J Y e2 with ⟨q2, f1, f2, f3⟩ | ⟨q2, f1, f2, f3, -, -⟩
      · rw [f1]
        refine Ok.some ⟨q2, cl2, hS.trans f1, f2, fun h0 => ?_, d3, ?_⟩
        · rcases f3 with ⟨f4, f5⟩ | ⟨f4, f5, -⟩
          · rw [f5]
            exact d4 (by omega)
          · omega
        · rw [← nj_p1]
      · rw [f1]
        have hE : yRun r k c g s lr lc G H B z n = .inr q2 := by
          have := yRun_end (hS.trans f1) (n - (i + 1))
          rw [show i + 1 + (n - (i + 1)) = n by omega] at this
          exact this
        refine Ok.ite (fun _ => ?_) (fun _ => ?_)
        · exact Ok.some (Or.inr ⟨q2, hE, rfl⟩)
        · exact Ok.some (Or.inr ⟨q2, hE, rfl⟩)
    · obtain ⟨q, cl, e1, e2, e3, e4, rfl⟩ := hI
      dsimp only
      refine Ok.grd ⟨by omega, by omega⟩ ?_
      refine Ok.ite (fun _ => ?_) (fun e => absurd (Int32.le_refl _) e)
      exact Ok.some (Or.inl ⟨q, cl, 9 * cl, e1, e2, e4, by omega, rfl⟩)
    · rcases hb with ⟨q, cl, sl, e1, e2, e3, e4, rfl⟩ | ⟨q, e1, rfl⟩
      · show Ok (if cl ≤ 200 ∧ sl ≤ 1800 then _ else none) _
        refine Ok.grd ⟨by omega, by omega⟩ ?_
        refine Ok.to (e_rest J Y e2.1 e2.2.1) ?_
        rw [e1]
        exact Ok.some ⟨rfl, fun p hp => by cases hp; exact e2⟩
      · rw [e1]
        exact Ok.some ⟨rfl, fun p hp => by cases hp⟩
  · have f8 := f7.2 c1
    have hv := f1.1 (Classical.byContradiction fun e => f8.1 e)
    rw [f8.2]
    exact Ok.some (Or.inl ⟨hv, rfl⟩)
