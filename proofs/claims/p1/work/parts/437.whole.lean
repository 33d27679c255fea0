/-! ===== whole, digest, rows of the reference ===== -/
theorem yCmp (a b : Int64) : (lg_cmp a b = 0) = (a = b) := by
  unfold lg_cmp
  refine propext ⟨fun h => ?_, fun h => ?_⟩
  · by_cases c : a > b
    · rw [if_pos c] at h
      exact absurd h (by decide)
    · rw [if_neg c] at h
      by_cases e : a = b
      · exact e
      · rw [if_neg e] at h
        exact absurd h (by decide)
  · rw [h, if_neg (show ¬ b > b from Int64.lt_irrefl), if_pos rfl]
theorem ybr_il {S R T : Type} (s : S) (f : S → Option T) (h : R → Option T) : ybr (.inl s) f h = f s := rfl
theorem ybr_ir {S R T : Type} (s : R) (f : S → Option T) (h : R → Option T) : ybr (.inr s) f h = h s := rfl
theorem wl_fold {α : Type} {body : α × Int32 → Option ((α × Int32) ⊕ (α × Int32))} (f : Nat → α → α) (n : Nat) (d0 : α) (hn : n < 4000) (step : ∀ i d, i < n → body (d, nI i) = some (.inl (f i d, nI (i + 1)))) (fin : ∀ d, body (d, nI n) = some (.inr (d, nI n))) : wl body yFuel (d0, 0) = some (yFold n f d0, nI n) := wl_eq (fun i => (yFold i f d0, nI i)) 0 n rfl (Nat.zero_le _) hn (fun i _ hi => step i _ hi) (fin _)
def yMinB (K : Nat → Nat → Int32) (R C st bb : Nat) : Bool := yAny 31 (fun i => yAny 31 (fun j => !yCross K (i + 1) (j + 1) && decide (yBeats R C (yPop (i + 1)) (yPop (j + 1)) st < bb)))
def yWh (K B U : Nat → Nat → Int32) (R C st : Nat) (z : Nat × Nat × Nat) (ta : Int64) (fin : Bool) : Bool := (decide (z.2.1 = 0) || (!yMinB K R C st (yBeats R C (yPop z.2.1) (yPop z.2.2) st) && !yCross K z.2.1 z.2.2)) && (!(yAny 5 fun i => yAny 5 (yKB B K i)) && (decide (yUs2 U 5 = ta) && fin))
theorem e_bt0_i {r k c g s : Nat} {G H : Nat → Nat → Int32} {xf : Nat → Int32} {lr lc : Nat} (J : yJob r k c g s) (Y : yLay lr lc) (h0 : xf 0 = nI lr) (h1 : xf 1 = nI lc) : fX9_bestTold0_i (nI r) (nI k) (nI c) (nI g) (nI s) r k G k c H xf 2 = some (nI (yBeats (r + s) (c + s) (yPop lr) (yPop lc) (yJst r k c g G H))) := by
  obtain ⟨⟨a1, a2⟩, ⟨a3, a4⟩, ⟨a5, a6⟩, a7, a8⟩ := id J
  have st := yJst_of G H J
  unfold fX9_bestTold0_i
  rw [cl0, cl1, h0, h1]
  refine (if_pos (show ¬ ((0 : Int32) < 0 ∨ 2 ≤ 0) by decide)).trans ?_
  refine (if_pos (show ¬ ((1 : Int32) < 0 ∨ 2 ≤ 1) by decide)).trans ?_
  refine bto (e_stepsJ J) ?_
  exact bto (e_beatsOf a2 a6 a8 Y.1.1 Y.1.2 Y.2.1 Y.2.2 st.1 (by omega)) rfl
theorem e_isWhole_i {r k c g s : Nat} {G H B K U : Nat → Nat → Int32} {ta : Int64} (J : yJob r k c g s) : fX9_isWhole_i ta (nI r) (nI k) (nI c) (nI g) (nI s) r k G k c H B K U = some (yb (yWh K B U (r + s) (c + s) (yJst r k c g G H) (yJb r k c g s G H K) ta true)) := by
  obtain ⟨⟨a1, a2⟩, ⟨a3, a4⟩, ⟨a5, a6⟩, a7, a8⟩ := id J
  have st := yJst_of G H J
  
  
  unfold fX9_isWhole_i yWh
  obtain ⟨x, hx, hp⟩ := e_bestJ (G := G) (H := H) (K := K) J
  refine bto hx ?_
  obtain ⟨xf, xn⟩ := x
  generalize yJb r k c g s G H K = z at hp ⊢
  rcases hp with ⟨h1, h2⟩ | ⟨h1, h2, h3, h4, h5, h6, h7⟩
  · have h2 : xn = 0 := h2
    subst h2
    refine bto (wl_eq (fun _ => (1 : Int32)) 0 0 (b := .inl 1) rfl (Nat.le_refl _) (by decide) (fun i _ hi => absurd hi (Nat.not_lt_zero _)) ?_) ?_
    · exact (if_neg (by decide)).trans (if_pos (show nI 0 ≤ 0 by decide))
    rw [decide_eq_true h1, Bool.true_or, Bool.true_and, ybr_il]
    refine (if_pos (show nI 0 ≤ 0 by decide)).trans ?_
    refine bto (e_sum) ?_
    cases hk : yAny 5 (fun i => yAny 5 (yKB B K i))
    · refine (show ybr (Sum.inl _) _ _ = _ from ?_)
      show (if lg_cmp (yUs2 U 5) ta = 0 then some (1 : Int32) else some 0) = _
      by_cases h : yUs2 U 5 = ta
      · rw [if_pos ((yCmp _ _).mpr h), decide_eq_true h]
        rfl
      · rw [if_neg (fun w => h ((yCmp _ _).mp w)), decide_eq_false h]
        rfl
    · rfl
  · have h5 : xn = 2 := h5
    have k6 : xf 0 = nI z.2.1 := h6
    have k7 : xf 1 = nI z.2.2 := h7
    subst h5
    have Y1 : yLay z.2.1 z.2.2 := ⟨⟨h1, h2⟩, h3, h4⟩
    have hn2 : ¬ nI 2 ≤ (0 : Int32) := by decide
    have bl : ∀ a b : Nat, 1 ≤ a → a < 32 → 1 ≤ b → b < 32 → yBeats (r + s) (c + s) (yPop a) (yPop b) (yJst r k c g G H) ≤ 1296 := fun a b x1 x2 x3 x4 => yBeats_le (by omega) (by omega) (yPop_pos a x2 x1) (yPop_le a x2) (yPop_pos b x4 x3) (yPop_le b x4) (by omega)
    rw [decide_eq_false (show ¬ z.2.1 = 0 by omega), Bool.false_or]
    refine bto (wl_any (b1 := .inr 0) (b2 := .inl (nI 32)) (fun i => nI (i + 1)) 31 (fun i => yAny 31 (fun j => !yCross K (i + 1) (j + 1) && decide (yBeats (r + s) (c + s) (yPop (i + 1)) (yPop (j + 1)) (yJst r k c g G H) < yBeats (r + s) (c + s) (yPop z.2.1) (yPop z.2.2) (yJst r k c g G H)))) rfl (by decide) (fun i hi hp => ?_) (fun i hi hp => ?_) ?_) ?_
    · have g1 : ¬ (32 : Int32) ≤ nI (i + 1) := fun w => by rw [li32, nj_le (by decide) (by omega)] at w; omega
      refine (if_neg g1).trans ?_
      refine (if_neg hn2).trans ?_
      refine bto (wl_any (b1 := .inr 0) (b2 := .inl (nI 32)) (fun j => nI (j + 1)) 31 (fun j => !yCross K (i + 1) (j + 1) && decide (yBeats (r + s) (c + s) (yPop (i + 1)) (yPop (j + 1)) (yJst r k c g G H) < yBeats (r + s) (c + s) (yPop z.2.1) (yPop z.2.2) (yJst r k c g G H))) rfl (by decide) (fun j hj hq => ?_) (fun j hj hq => ?_) ?_) ?_
      · have g2 : ¬ (32 : Int32) ≤ nI (j + 1) := fun w => by rw [li32, nj_le (by decide) (by omega)] at w; omega
        refine (if_neg g2).trans ?_
        refine bto (e_crosses_i (by omega) (by omega)) ?_
        cases hc : yCross K (i + 1) (j + 1)
        · rw [hc] at hq
          refine (if_pos (show yb false = 0 by decide)).trans ?_
          refine bto (e_stepsJ J) ?_
          refine bto (e_beatsOf a2 a6 a8 (by omega) (by omega) (by omega) (by omega) st.1 (by omega)) ?_
          refine bto (e_bt0_i J Y1 k6 k7) ?_
          have b1 := bl (i + 1) (j + 1) (by omega) (by omega) (by omega) (by omega)
          have b2 := bl z.2.1 z.2.2 h1 h2 h3 h4
          refine (if_pos (by
            rw [nj_le (by omega) (by omega)]
            have hq := of_decide_eq_false (show decide _ = false from hq)
            omega)).trans ?_
          rw [nj_p1]
        · refine (if_neg (show ¬ yb true = 0 by decide)).trans ?_
          rw [nj_p1]
      · have g2 : ¬ (32 : Int32) ≤ nI (j + 1) := fun w => by rw [li32, nj_le (by decide) (by omega)] at w; omega
        refine (if_neg g2).trans ?_
        refine bto (e_crosses_i (by omega) (by omega)) ?_
        rw [Bool.and_eq_true] at hq
        cases hc : yCross K (i + 1) (j + 1)
        · refine (if_pos (show yb false = 0 by decide)).trans ?_
          refine bto (e_stepsJ J) ?_
          refine bto (e_beatsOf a2 a6 a8 (by omega) (by omega) (by omega) (by omega) st.1 (by omega)) ?_
          refine bto (e_bt0_i J Y1 k6 k7) ?_
          have b1 := bl (i + 1) (j + 1) (by omega) (by omega) (by omega) (by omega)
          have b2 := bl z.2.1 z.2.2 h1 h2 h3 h4
          exact if_neg (fun w => by
            rw [nj_le (by omega) (by omega)] at w
            have hq := of_decide_eq_true hq.2
            omega)
        · rw [hc] at hq
          exact absurd hq.1 (by decide)
      · exact if_pos (show (32 : Int32) ≤ nI (31 + 1) by decide)
      rw [hp]
      show some (Sum.inl (nI (i + 1) + 1)) = _
      rw [nj_p1]
    · have g1 : ¬ (32 : Int32) ≤ nI (i + 1) := fun w => by rw [li32, nj_le (by decide) (by omega)] at w; omega
      refine (if_neg g1).trans ?_
      refine (if_neg hn2).trans ?_
      refine bto (wl_any (b1 := .inr 0) (b2 := .inl (nI 32)) (fun j => nI (j + 1)) 31 (fun j => !yCross K (i + 1) (j + 1) && decide (yBeats (r + s) (c + s) (yPop (i + 1)) (yPop (j + 1)) (yJst r k c g G H) < yBeats (r + s) (c + s) (yPop z.2.1) (yPop z.2.2) (yJst r k c g G H))) rfl (by decide) (fun j hj hq => ?_) (fun j hj hq => ?_) ?_) ?_
      · have g2 : ¬ (32 : Int32) ≤ nI (j + 1) := fun w => by rw [li32, nj_le (by decide) (by omega)] at w; omega
        refine (if_neg g2).trans ?_
        refine bto (e_crosses_i (by omega) (by omega)) ?_
        cases hc : yCross K (i + 1) (j + 1)
        · rw [hc] at hq
          refine (if_pos (show yb false = 0 by decide)).trans ?_
          refine bto (e_stepsJ J) ?_
          refine bto (e_beatsOf a2 a6 a8 (by omega) (by omega) (by omega) (by omega) st.1 (by omega)) ?_
          refine bto (e_bt0_i J Y1 k6 k7) ?_
          have b1 := bl (i + 1) (j + 1) (by omega) (by omega) (by omega) (by omega)
          have b2 := bl z.2.1 z.2.2 h1 h2 h3 h4
          refine (if_pos (by
            rw [nj_le (by omega) (by omega)]
            have hq := of_decide_eq_false (show decide _ = false from hq)
            omega)).trans ?_
          rw [nj_p1]
        · refine (if_neg (show ¬ yb true = 0 by decide)).trans ?_
          rw [nj_p1]
      · have g2 : ¬ (32 : Int32) ≤ nI (j + 1) := fun w => by rw [li32, nj_le (by decide) (by omega)] at w; omega
        refine (if_neg g2).trans ?_
        refine bto (e_crosses_i (by omega) (by omega)) ?_
        rw [Bool.and_eq_true] at hq
        cases hc : yCross K (i + 1) (j + 1)
        · refine (if_pos (show yb false = 0 by decide)).trans ?_
          refine bto (e_stepsJ J) ?_
          refine bto (e_beatsOf a2 a6 a8 (by omega) (by omega) (by omega) (by omega) st.1 (by omega)) ?_
          refine bto (e_bt0_i J Y1 k6 k7) ?_
          have b1 := bl (i + 1) (j + 1) (by omega) (by omega) (by omega) (by omega)
          have b2 := bl z.2.1 z.2.2 h1 h2 h3 h4
          exact if_neg (fun w => by
            rw [nj_le (by omega) (by omega)] at w
            have hq := of_decide_eq_true hq.2
            omega)
        · rw [hc] at hq
          exact absurd hq.1 (by decide)
      · exact if_pos (show (32 : Int32) ≤ nI (31 + 1) by decide)
      rw [hp]
      rfl
    · exact if_pos (show (32 : Int32) ≤ nI (31 + 1) by decide)
    have hm : (yAny 31 fun i => yAny 31 (fun j => !yCross K (i + 1) (j + 1) && decide (yBeats (r + s) (c + s) (yPop (i + 1)) (yPop (j + 1)) (yJst r k c g G H) < yBeats (r + s) (c + s) (yPop z.2.1) (yPop z.2.2) (yJst r k c g G H)))) = yMinB K (r + s) (c + s) (yJst r k c g G H) (yBeats (r + s) (c + s) (yPop z.2.1) (yPop z.2.2) (yJst r k c g G H)) := rfl
    rw [hm]
    cases yMinB K (r + s) (c + s) (yJst r k c g G H) (yBeats (r + s) (c + s) (yPop z.2.1) (yPop z.2.2) (yJst r k c g G H))
    · rw [if_neg (show ¬ false = true by decide), ybr_il]
      refine (if_neg hn2).trans ?_
      dsimp only
      rw [cl0, cl1, k6, k7]
      refine (if_pos (show ¬ ((0 : Int32) < 0 ∨ 2 ≤ 0) by decide)).trans ?_
      refine (if_pos (show ¬ ((1 : Int32) < 0 ∨ 2 ≤ 1) by decide)).trans ?_
      refine bto (e_crosses_i h2 h4) ?_
      cases yCross K z.2.1 z.2.2
      · refine (if_pos (show yb false = 0 by decide)).trans ?_
        refine bto (e_sum) ?_
        cases hk : yAny 5 (fun i => yAny 5 (yKB B K i))
        · refine (show ybr (Sum.inl _) _ _ = _ from ?_)
          show (if lg_cmp (yUs2 U 5) ta = 0 then some (1 : Int32) else some 0) = _
          by_cases h : yUs2 U 5 = ta
          · rw [if_pos ((yCmp _ _).mpr h), decide_eq_true h]
            rfl
          · rw [if_neg (fun w => h ((yCmp _ _).mp w)), decide_eq_false h]
            rfl
        · rfl
      · rfl
    · rfl
theorem e_isSound_i {r k c g s : Nat} {G H B K U : Nat → Nat → Int32} {ta : Int64} (J : yJob r k c g s) : fX9_isSound_i ta (nI r) (nI k) (nI c) (nI g) (nI s) r k G k c H B K U = some (yb (yWh K B U (r + s) (c + s) (yJst r k c g G H) (yJb r k c g s G H K) ta true), 0) := by
  unfold fX9_isSound_i
  refine bto (e_isWhole_i J) ?_
  cases yWh K B U (r + s) (c + s) (yJst r k c g G H) (yJb r k c g s G H K) ta true
  · exact if_pos (Or.inl rfl)
  · exact if_pos (Or.inr rfl)
theorem e_bt0_r {r k c g s : Nat} {G H : Nat → Nat → Int32} {xf : Nat → Int32} {lr lc : Nat} (J : yJob r k c g s) (Y : yLay lr lc) (h0 : xf 0 = nI lr) (h1 : xf 1 = nI lc) : fX9_bestTold0_r (nI r) (nI k) (nI c) (nI g) (nI s) r k G k c H xf 2 = some (nI (yBeats (r + s) (c + s) (yPop lr) (yPop lc) (yJst r k c g G H))) := by
  obtain ⟨⟨a1, a2⟩, ⟨a3, a4⟩, ⟨a5, a6⟩, a7, a8⟩ := id J
  have st := yJst_of G H J
  unfold fX9_bestTold0_r
  rw [cl0, cl1, h0, h1]
  refine (if_pos (show ¬ ((0 : Int32) < 0 ∨ 2 ≤ 0) by decide)).trans ?_
  refine (if_pos (show ¬ ((1 : Int32) < 0 ∨ 2 ≤ 1) by decide)).trans ?_
  refine bto (e_stepsJ J) ?_
  exact bto (e_beatsOf a2 a6 a8 Y.1.1 Y.1.2 Y.2.1 Y.2.2 st.1 (by omega)) rfl
theorem e_isWhole_r {r k c g s : Nat} {G H B K U : Nat → Nat → Int32} {ta : Int64} {r2 k2 c2 g2 s2 lr lc ti go : Nat} {G2 H2 : Nat → Nat → Int32} (J : yJob r k c g s) (J2 : yJob r2 k2 c2 g2 s2) (Y : yLay lr lc) (ht : ti < yNt r2 c2 s2 lr lc) (hg : go < yTb r2 c2 s2 lr lc (yJst r2 k2 c2 g2 G2 H2) ti) : fX9_isWhole_r ta (nI lr) (nI lc) (nI ti) (nI go) (nI r) (nI k) (nI c) (nI g) (nI s) r k G k c H B K U (nI r2) (nI k2) (nI c2) (nI g2) (nI s2) r2 k2 G2 k2 c2 H2 = some (yb (yWh K B U (r + s) (c + s) (yJst r k c g G H) (yJb r k c g s G H K) ta (decide (0 < yFrom r2 c2 s2 lr lc (yJst r2 k2 c2 g2 G2 H2) ti - go)))) := by
  obtain ⟨⟨a1, a2⟩, ⟨a3, a4⟩, ⟨a5, a6⟩, a7, a8⟩ := id J
  have st := yJst_of G H J
  have st2 := yJst_of G2 H2 J2
  have kk2 : k2 ≤ 6 := J2.2.1.2
  unfold fX9_isWhole_r yWh
  obtain ⟨x, hx, hp⟩ := e_bestJ (G := G) (H := H) (K := K) J
  refine bto hx ?_
  obtain ⟨xf, xn⟩ := x
  generalize yJb r k c g s G H K = z at hp ⊢
  rcases hp with ⟨h1, h2⟩ | ⟨h1, h2, h3, h4, h5, h6, h7⟩
  · have h2 : xn = 0 := h2
    subst h2
    refine bto (wl_eq (fun _ => (1 : Int32)) 0 0 (b := .inl 1) rfl (Nat.le_refl _) (by decide) (fun i _ hi => absurd hi (Nat.not_lt_zero _)) ?_) ?_
    · exact (if_neg (by decide)).trans (if_pos (show nI 0 ≤ 0 by decide))
    rw [decide_eq_true h1, Bool.true_or, Bool.true_and, ybr_il]
    refine (if_pos (show nI 0 ≤ 0 by decide)).trans ?_
    refine bto (e_sum) ?_
    cases hk : yAny 5 (fun i => yAny 5 (yKB B K i))
    · show (if lg_cmp (yUs2 U 5) ta = 0 then ((fX9_rest_r (nI lr) (nI lc) (nI ti) (nI go) (nI r2) (nI k2) (nI c2) (nI g2) (nI s2) r2 k2 G2 k2 c2 H2).bind fun x_10 => (if x_10 ≤ 0 then some 0 else some 1)) else some 0) = _
      by_cases h : yUs2 U 5 = ta
      · rw [if_pos ((yCmp _ _).mpr h), decide_eq_true h]
        refine bto (e_rest J2 Y ht hg) ?_
        have fl := yFrom_le (ti := ti) (st := yJst r2 k2 c2 g2 G2 H2) J2 Y st2.1 (by omega)
        unfold yJst at fl
        by_cases e : 0 < yFrom r2 c2 s2 lr lc (yJst r2 k2 c2 g2 G2 H2) ti - go
        · rw [decide_eq_true e]
          exact if_neg (fun w => by
            rw [li0, nj_le (by omega) (by omega)] at w
            unfold yJst at e
            omega)
        · rw [decide_eq_false e]
          exact if_pos (by
            rw [li0, nj_le (by omega) (by omega)]
            unfold yJst at e
            omega)
      · rw [if_neg (fun w => h ((yCmp _ _).mp w)), decide_eq_false h]
        rfl
    · rfl
  · have h5 : xn = 2 := h5
    have k6 : xf 0 = nI z.2.1 := h6
    have k7 : xf 1 = nI z.2.2 := h7
    subst h5
    have Y1 : yLay z.2.1 z.2.2 := ⟨⟨h1, h2⟩, h3, h4⟩
    have hn2 : ¬ nI 2 ≤ (0 : Int32) := by decide
    have bl : ∀ a b : Nat, 1 ≤ a → a < 32 → 1 ≤ b → b < 32 → yBeats (r + s) (c + s) (yPop a) (yPop b) (yJst r k c g G H) ≤ 1296 := fun a b x1 x2 x3 x4 => yBeats_le (by omega) (by omega) (yPop_pos a x2 x1) (yPop_le a x2) (yPop_pos b x4 x3) (yPop_le b x4) (by omega)
    rw [decide_eq_false (show ¬ z.2.1 = 0 by omega), Bool.false_or]
    refine bto (wl_any (b1 := .inr 0) (b2 := .inl (nI 32)) (fun i => nI (i + 1)) 31 (fun i => yAny 31 (fun j => !yCross K (i + 1) (j + 1) && decide (yBeats (r + s) (c + s) (yPop (i + 1)) (yPop (j + 1)) (yJst r k c g G H) < yBeats (r + s) (c + s) (yPop z.2.1) (yPop z.2.2) (yJst r k c g G H)))) rfl (by decide) (fun i hi hp => ?_) (fun i hi hp => ?_) ?_) ?_
    · have g1 : ¬ (32 : Int32) ≤ nI (i + 1) := fun w => by rw [li32, nj_le (by decide) (by omega)] at w; omega
      refine (if_neg g1).trans ?_
      refine (if_neg hn2).trans ?_
      refine bto (wl_any (b1 := .inr 0) (b2 := .inl (nI 32)) (fun j => nI (j + 1)) 31 (fun j => !yCross K (i + 1) (j + 1) && decide (yBeats (r + s) (c + s) (yPop (i + 1)) (yPop (j + 1)) (yJst r k c g G H) < yBeats (r + s) (c + s) (yPop z.2.1) (yPop z.2.2) (yJst r k c g G H))) rfl (by decide) (fun j hj hq => ?_) (fun j hj hq => ?_) ?_) ?_
      · have g2 : ¬ (32 : Int32) ≤ nI (j + 1) := fun w => by rw [li32, nj_le (by decide) (by omega)] at w; omega
        refine (if_neg g2).trans ?_
        refine bto (e_crosses_r (by omega) (by omega)) ?_
        cases hc : yCross K (i + 1) (j + 1)
        · rw [hc] at hq
          refine (if_pos (show yb false = 0 by decide)).trans ?_
          refine bto (e_stepsJ J) ?_
          refine bto (e_beatsOf a2 a6 a8 (by omega) (by omega) (by omega) (by omega) st.1 (by omega)) ?_
          refine bto (e_bt0_r J Y1 k6 k7) ?_
          have b1 := bl (i + 1) (j + 1) (by omega) (by omega) (by omega) (by omega)
          have b2 := bl z.2.1 z.2.2 h1 h2 h3 h4
          refine (if_pos (by
            rw [nj_le (by omega) (by omega)]
            have hq := of_decide_eq_false (show decide _ = false from hq)
            omega)).trans ?_
          rw [nj_p1]
        · refine (if_neg (show ¬ yb true = 0 by decide)).trans ?_
          rw [nj_p1]
      · have g2 : ¬ (32 : Int32) ≤ nI (j + 1) := fun w => by rw [li32, nj_le (by decide) (by omega)] at w; omega
        refine (if_neg g2).trans ?_
        refine bto (e_crosses_r (by omega) (by omega)) ?_
        rw [Bool.and_eq_true] at hq
        cases hc : yCross K (i + 1) (j + 1)
        · refine (if_pos (show yb false = 0 by decide)).trans ?_
          refine bto (e_stepsJ J) ?_
          refine bto (e_beatsOf a2 a6 a8 (by omega) (by omega) (by omega) (by omega) st.1 (by omega)) ?_
          refine bto (e_bt0_r J Y1 k6 k7) ?_
          have b1 := bl (i + 1) (j + 1) (by omega) (by omega) (by omega) (by omega)
          have b2 := bl z.2.1 z.2.2 h1 h2 h3 h4
          exact if_neg (fun w => by
            rw [nj_le (by omega) (by omega)] at w
            have hq := of_decide_eq_true hq.2
            omega)
        · rw [hc] at hq
          exact absurd hq.1 (by decide)
      · exact if_pos (show (32 : Int32) ≤ nI (31 + 1) by decide)
      rw [hp]
      show some (Sum.inl (nI (i + 1) + 1)) = _
      rw [nj_p1]
    · have g1 : ¬ (32 : Int32) ≤ nI (i + 1) := fun w => by rw [li32, nj_le (by decide) (by omega)] at w; omega
      refine (if_neg g1).trans ?_
      refine (if_neg hn2).trans ?_
      refine bto (wl_any (b1 := .inr 0) (b2 := .inl (nI 32)) (fun j => nI (j + 1)) 31 (fun j => !yCross K (i + 1) (j + 1) && decide (yBeats (r + s) (c + s) (yPop (i + 1)) (yPop (j + 1)) (yJst r k c g G H) < yBeats (r + s) (c + s) (yPop z.2.1) (yPop z.2.2) (yJst r k c g G H))) rfl (by decide) (fun j hj hq => ?_) (fun j hj hq => ?_) ?_) ?_
      · have g2 : ¬ (32 : Int32) ≤ nI (j + 1) := fun w => by rw [li32, nj_le (by decide) (by omega)] at w; omega
        refine (if_neg g2).trans ?_
        refine bto (e_crosses_r (by omega) (by omega)) ?_
        cases hc : yCross K (i + 1) (j + 1)
        · rw [hc] at hq
          refine (if_pos (show yb false = 0 by decide)).trans ?_
          refine bto (e_stepsJ J) ?_
          refine bto (e_beatsOf a2 a6 a8 (by omega) (by omega) (by omega) (by omega) st.1 (by omega)) ?_
          refine bto (e_bt0_r J Y1 k6 k7) ?_
          have b1 := bl (i + 1) (j + 1) (by omega) (by omega) (by omega) (by omega)
          have b2 := bl z.2.1 z.2.2 h1 h2 h3 h4
          refine (if_pos (by
            rw [nj_le (by omega) (by omega)]
            have hq := of_decide_eq_false (show decide _ = false from hq)
            omega)).trans ?_
          rw [nj_p1]
        · refine (if_neg (show ¬ yb true = 0 by decide)).trans ?_
          rw [nj_p1]
      · have g2 : ¬ (32 : Int32) ≤ nI (j + 1) := fun w => by rw [li32, nj_le (by decide) (by omega)] at w; omega
        refine (if_neg g2).trans ?_
        refine bto (e_crosses_r (by omega) (by omega)) ?_
        rw [Bool.and_eq_true] at hq
        cases hc : yCross K (i + 1) (j + 1)
        · refine (if_pos (show yb false = 0 by decide)).trans ?_
          refine bto (e_stepsJ J) ?_
          refine bto (e_beatsOf a2 a6 a8 (by omega) (by omega) (by omega) (by omega) st.1 (by omega)) ?_
          refine bto (e_bt0_r J Y1 k6 k7) ?_
          have b1 := bl (i + 1) (j + 1) (by omega) (by omega) (by omega) (by omega)
          have b2 := bl z.2.1 z.2.2 h1 h2 h3 h4
          exact if_neg (fun w => by
            rw [nj_le (by omega) (by omega)] at w
            have hq := of_decide_eq_true hq.2
            omega)
        · rw [hc] at hq
          exact absurd hq.1 (by decide)
      · exact if_pos (show (32 : Int32) ≤ nI (31 + 1) by decide)
      rw [hp]
      rfl
    · exact if_pos (show (32 : Int32) ≤ nI (31 + 1) by decide)
    have hm : (yAny 31 fun i => yAny 31 (fun j => !yCross K (i + 1) (j + 1) && decide (yBeats (r + s) (c + s) (yPop (i + 1)) (yPop (j + 1)) (yJst r k c g G H) < yBeats (r + s) (c + s) (yPop z.2.1) (yPop z.2.2) (yJst r k c g G H)))) = yMinB K (r + s) (c + s) (yJst r k c g G H) (yBeats (r + s) (c + s) (yPop z.2.1) (yPop z.2.2) (yJst r k c g G H)) := rfl
    rw [hm]
    cases yMinB K (r + s) (c + s) (yJst r k c g G H) (yBeats (r + s) (c + s) (yPop z.2.1) (yPop z.2.2) (yJst r k c g G H))
    · rw [if_neg (show ¬ false = true by decide), ybr_il]
      refine (if_neg hn2).trans ?_
      dsimp only
      rw [cl0, cl1, k6, k7]
      refine (if_pos (show ¬ ((0 : Int32) < 0 ∨ 2 ≤ 0) by decide)).trans ?_
      refine (if_pos (show ¬ ((1 : Int32) < 0 ∨ 2 ≤ 1) by decide)).trans ?_
      refine bto (e_crosses_r h2 h4) ?_
      cases yCross K z.2.1 z.2.2
      · refine (if_pos (show yb false = 0 by decide)).trans ?_
        refine bto (e_sum) ?_
        cases hk : yAny 5 (fun i => yAny 5 (yKB B K i))
        · show (if lg_cmp (yUs2 U 5) ta = 0 then ((fX9_rest_r (nI lr) (nI lc) (nI ti) (nI go) (nI r2) (nI k2) (nI c2) (nI g2) (nI s2) r2 k2 G2 k2 c2 H2).bind fun x_10 => (if x_10 ≤ 0 then some 0 else some 1)) else some 0) = _
          by_cases h : yUs2 U 5 = ta
          · rw [if_pos ((yCmp _ _).mpr h), decide_eq_true h]
            refine bto (e_rest J2 Y ht hg) ?_
            have fl := yFrom_le (ti := ti) (st := yJst r2 k2 c2 g2 G2 H2) J2 Y st2.1 (by omega)
            unfold yJst at fl
            by_cases e : 0 < yFrom r2 c2 s2 lr lc (yJst r2 k2 c2 g2 G2 H2) ti - go
            · rw [decide_eq_true e]
              exact if_neg (fun w => by
                rw [li0, nj_le (by omega) (by omega)] at w
                unfold yJst at e
                omega)
            · rw [decide_eq_false e]
              exact if_pos (by
                rw [li0, nj_le (by omega) (by omega)]
                unfold yJst at e
                omega)
          · rw [if_neg (fun w => h ((yCmp _ _).mp w)), decide_eq_false h]
            rfl
        · rfl
      · rfl
    · rfl
theorem e_isSound_r {r k c g s : Nat} {G H B K U : Nat → Nat → Int32} {ta : Int64} {r2 k2 c2 g2 s2 lr lc ti go : Nat} {G2 H2 : Nat → Nat → Int32} (J : yJob r k c g s) (J2 : yJob r2 k2 c2 g2 s2) (Y : yLay lr lc) (ht : ti < yNt r2 c2 s2 lr lc) (hg : go < yTb r2 c2 s2 lr lc (yJst r2 k2 c2 g2 G2 H2) ti) : fX9_isSound_r ta (nI lr) (nI lc) (nI ti) (nI go) (nI r) (nI k) (nI c) (nI g) (nI s) r k G k c H B K U (nI r2) (nI k2) (nI c2) (nI g2) (nI s2) r2 k2 G2 k2 c2 H2 = some (yb (yWh K B U (r + s) (c + s) (yJst r k c g G H) (yJb r k c g s G H K) ta (decide (0 < yFrom r2 c2 s2 lr lc (yJst r2 k2 c2 g2 G2 H2) ti - go))), 0) := by
  unfold fX9_isSound_r
  refine bto (e_isWhole_r J J2 Y ht hg) ?_
  cases yWh K B U (r + s) (c + s) (yJst r k c g G H) (yJb r k c g s G H K) ta (decide (0 < yFrom r2 c2 s2 lr lc (yJst r2 k2 c2 g2 G2 H2) ti - go))
  · exact if_pos (Or.inl rfl)
  · exact if_pos (Or.inr rfl)
def yAd (d : Int64) (x : Int32) : Int64 := d * 31 + x.toInt64
theorem e_add (a b : Int64) : fX9_add a b = some (a * 31 + b) := rfl
def yD1 (v : Nat → Int32) (d : Int64) : Int64 := yFold 16 (fun w d => yAd d (yMT v (nI w))) d
def yD2 (f : Nat → Nat → Nat → Int32) (d : Int64) : Int64 := yFold 5 (fun i d => yFold 5 (fun j d => yFold 4 (fun w d => yAd d (f i j w)) d) d) d
def yD4 (f : Int32 → Int32) (d : Int64) : Int64 := yFold 5 (fun w d => yAd d (f (nI w))) d
def yD3 (n k : Nat) (R : Nat → Nat → Int32) (d : Int64) : Int64 := yFold n (fun i d => yFold k (fun j d => yAd d (R i j)) d) d
def yDigi (r k c g s : Nat) (G H B K U : Nat → Nat → Int32) (be wo : Int32) (ta : Int64) (Rn Rk : Nat) (R : Nat → Nat → Int32) : Int64 := yAd (yAd (yD4 (fun i => yBT (r + s) (c + s) (yJst r k c g G H) (yJb r k c g s G H K) i) (yD3 (r + s) (c + s) (fun i j => yPlain r k c g r G c H i j) (yD3 Rn Rk R (yD2 (fun i j w => yCT B K U 0 (-1) i j (nI w)) (yD1 (yMv r k c g s G H B K be wo Rn Rk (0, 0, -1)) 5659))))) (ySvi r k c g s G H K)) (yb (yWh K B U (r + s) (c + s) (yJst r k c g G H) (yJb r k c g s G H K) ta true))
theorem e_dg0_i {r k c g s Rn Rk : Nat} {G H B K U R : Nat → Nat → Int32} {be wo : Int32} {ta : Int64} (J : yJob r k c g s) (hRn : Rn ≤ 9) (hRk : Rk ≤ 9) : (wl (S := Int64 × Int32) (B := Int64 × Int32) (fun s_1 => (if 16 ≤ s_1.2 then some (.inr (s_1.1, s_1.2)) else ((fX9_meshTold_i be wo (nI r) (nI k) (nI c) (nI g) (nI s) r k G k c H B K Rn Rk s_1.2).bind fun x_92 => ((fX9_add s_1.1 x_92.toInt64).bind fun x_96 => some (.inl (x_96, s_1.2 + 1)))))) yFuel (5659, 0)) = some (yD1 (yMv r k c g s G H B K be wo Rn Rk (0, 0, -1)) 5659, nI 16) := by
  obtain ⟨⟨a1, a2⟩, ⟨a3, a4⟩, ⟨a5, a6⟩, a7, a8⟩ := id J
  
  
  refine wl_fold (fun w d => yAd d (yMT (yMv r k c g s G H B K be wo Rn Rk (0, 0, -1)) (nI w))) 16 5659 (by decide) (fun i d hi => ?_) (fun d => ?_)
  · refine (if_neg (fun w => by rw [show (16 : Int32) = nI 16 from rfl, nj_le (by decide) (by omega)] at w; omega)).trans ?_
    refine bto (e_meshTold_i J hRn) ?_
    refine bto (e_add _ _) ?_
    rw [nj_p1]
    rfl
  · exact if_pos (show (16 : Int32) ≤ nI 16 by decide)
theorem e_dg1_i {r k c g s Rn Rk : Nat} {G H B K U R : Nat → Nat → Int32} {be wo : Int32} {ta : Int64} (J : yJob r k c g s) (hRn : Rn ≤ 9) (hRk : Rk ≤ 9) {d1 : Int64} : (wl (S := Int64 × Int32) (B := Int64 × Int32) (fun s_2 => (if 5 ≤ s_2.2 then some (.inr (s_2.1, s_2.2)) else ((wl (S := Int64 × Int32) (B := Int64 × Int32) (fun s_76 => (if 5 ≤ s_76.2 then some (.inr (s_76.1, s_76.2)) else ((wl (S := Int64 × Int32) (B := Int64 × Int32) (fun s_79 => (if 4 ≤ s_79.2 then some (.inr (s_79.1, s_79.2)) else ((fX9_cellTold_i B K U s_2.2 s_76.2 s_79.2).bind fun x_82 => ((fX9_add s_79.1 x_82.toInt64).bind fun x_86 => some (.inl (x_86, s_79.2 + 1)))))) yFuel (s_76.1, 0)).bind fun b_79 => some (.inl (b_79.1, s_76.2 + 1))))) yFuel (s_2.1, 0)).bind fun b_76 => some (.inl (b_76.1, s_2.2 + 1))))) yFuel (d1, 0)) = some (yD2 (fun i j w => yCT B K U 0 (-1) i j (nI w)) d1, nI 5) := by
  obtain ⟨⟨a1, a2⟩, ⟨a3, a4⟩, ⟨a5, a6⟩, a7, a8⟩ := id J
  
  
  refine wl_fold (fun i d => yFold 5 (fun j d => yFold 4 (fun w d => yAd d ((fun i j w => yCT B K U 0 (-1) i j (nI w)) i j w)) d) d) 5 d1 (by decide) (fun i d hi => ?_) (fun d => ?_)
  · refine (if_neg (fun w => by rw [li5, nj_le (by decide) (by omega)] at w; omega)).trans ?_
    refine bto (wl_fold (fun j d => yFold 4 (fun w d => yAd d ((fun i j w => yCT B K U 0 (-1) i j (nI w)) i j w)) d) 5 d (by decide) (fun j d hj => ?_) (fun d => ?_)) ?_
    · refine (if_neg (fun w => by rw [li5, nj_le (by decide) (by omega)] at w; omega)).trans ?_
      refine bto (wl_fold (fun w d => yAd d ((fun i j w => yCT B K U 0 (-1) i j (nI w)) i j w)) 4 d (by decide) (fun w d hw => ?_) (fun d => ?_)) ?_
      · refine (if_neg (fun w => by rw [li4, nj_le (by decide) (by omega)] at w; omega)).trans ?_
        refine bto (e_cellTold_i hi hj) ?_
        refine bto (e_add _ _) ?_
        rw [nj_p1]
        rfl
      · exact if_pos (show (4 : Int32) ≤ nI 4 by decide)
      · dsimp only
        rw [nj_p1]
    · exact if_pos (show (5 : Int32) ≤ nI 5 by decide)
    · dsimp only
      rw [nj_p1]
  · exact if_pos (show (5 : Int32) ≤ nI 5 by decide)
theorem e_dg2_i {r k c g s Rn Rk : Nat} {G H B K U R : Nat → Nat → Int32} {be wo : Int32} {ta : Int64} (J : yJob r k c g s) (hRn : Rn ≤ 9) (hRk : Rk ≤ 9) {d4 : Int64} : (wl (S := Int64 × Int32) (B := Int64 × Int32) (fun s_3 => (if (nI Rn) ≤ s_3.2 then some (.inr (s_3.1, s_3.2)) else (if ¬ (s_3.2 < 0 ∨ Rn ≤ s_3.2.toNatClampNeg) then ((wl (S := Int64 × Int32) (B := Int64 × Int32) (fun s_65 => (if (nI Rk) ≤ s_65.2 then some (.inr (s_65.1, s_65.2)) else (if ¬ (s_65.2 < 0 ∨ Rk ≤ s_65.2.toNatClampNeg) then (ylet (R s_3.2.toNatClampNeg s_65.2.toNatClampNeg : Int32) fun y_69 => ((fX9_add s_65.1 y_69.toInt64).bind fun x_70 => some (.inl (x_70, s_65.2 + 1)))) else none))) yFuel (s_3.1, 0)).bind fun b_65 => some (.inl (b_65.1, s_3.2 + 1))) else none))) yFuel (d4, 0)) = some (yD3 Rn Rk R d4, nI Rn) := by
  obtain ⟨⟨a1, a2⟩, ⟨a3, a4⟩, ⟨a5, a6⟩, a7, a8⟩ := id J
  
  
  refine wl_fold (fun i d => yFold Rk (fun j d => yAd d (R i j)) d) Rn d4 (by omega) (fun i d hi => ?_) (fun d => ?_)
  · refine (if_neg (fun w => by rw [nj_le (by omega) (by omega)] at w; omega)).trans ?_
    refine (if_pos (nj_in hi (by omega))).trans ?_
    refine bto (wl_fold (fun j d => yAd d (R i j)) Rk d (by omega) (fun j d hj => ?_) (fun d => ?_)) ?_
    · refine (if_neg (fun w => by rw [nj_le (by omega) (by omega)] at w; omega)).trans ?_
      refine (if_pos (nj_in hj (by omega))).trans ?_
      unfold ylet
      dsimp only
      rw [nj_cl (by omega), nj_cl (by omega)]
      refine bto (e_add _ _) ?_
      rw [nj_p1]
      rfl
    · exact if_pos (Int32.le_refl _)
    · dsimp only
      rw [nj_p1]
  · exact if_pos (Int32.le_refl _)
theorem e_dg3_i {r k c g s Rn Rk : Nat} {G H B K U R : Nat → Nat → Int32} {be wo : Int32} {ta : Int64} (J : yJob r k c g s) (hRn : Rn ≤ 9) (hRk : Rk ≤ 9) {d5 : Int64} : (wl (S := Int64 × Int32) (B := Int64 × Int32) (fun s_4 => ((fX8_rows (nI r) (nI s)).bind fun x_41 => (if x_41 ≤ s_4.2 then some (.inr (s_4.1, s_4.2)) else ((wl (S := Int64 × Int32) (B := Int64 × Int32) (fun s_47 => ((fX8_columns (nI c) (nI s)).bind fun x_48 => (if x_48 ≤ s_47.2 then some (.inr (s_47.1, s_47.2)) else ((fX8_plain (nI r) (nI k) (nI c) (nI g) r k G k c H s_4.2 s_47.2).bind fun x_54 => ((fX9_add s_47.1 x_54.toInt64).bind fun x_58 => some (.inl (x_58, s_47.2 + 1))))))) yFuel (s_4.1, 0)).bind fun b_47 => some (.inl (b_47.1, s_4.2 + 1)))))) yFuel (d5, 0)) = some (yD3 (r + s) (c + s) (fun i j => yPlain r k c g r G c H i j) d5, nI (r + s)) := by
  obtain ⟨⟨a1, a2⟩, ⟨a3, a4⟩, ⟨a5, a6⟩, a7, a8⟩ := id J
  
  
  refine wl_fold (fun i d => yFold (c + s) (fun j d => yAd d ((fun i j => yPlain r k c g r G c H i j) i j)) d) (r + s) d5 (by omega) (fun i d hi => ?_) (fun d => ?_)
  · refine bto (e_rows a8) ?_
    refine (if_neg (fun w => by rw [nj_le (by omega) (by omega)] at w; omega)).trans ?_
    refine bto (wl_fold (fun j d => yAd d ((fun i j => yPlain r k c g r G c H i j) i j)) (c + s) d (by omega) (fun j d hj => ?_) (fun d => ?_)) ?_
    · refine bto (e_columns a8) ?_
      refine (if_neg (fun w => by rw [nj_le (by omega) (by omega)] at w; omega)).trans ?_
      refine bto (e_plain a7 (by omega) (by omega) (by omega) (by omega) a4 (Nat.le_refl _) (Nat.le_refl _) (by omega) (by omega) (by omega) (by omega)) ?_
      refine bto (e_add _ _) ?_
      rw [nj_p1]
      rfl
    · refine bto (e_columns a8) ?_
      exact if_pos (Int32.le_refl _)
    · dsimp only
      rw [nj_p1]
  · refine bto (e_rows a8) ?_
    exact if_pos (Int32.le_refl _)
theorem e_dg4_i {r k c g s Rn Rk : Nat} {G H B K U R : Nat → Nat → Int32} {be wo : Int32} {ta : Int64} (J : yJob r k c g s) (hRn : Rn ≤ 9) (hRk : Rk ≤ 9) {d6 : Int64} : (wl (S := Int64 × Int32 × Nat × Nat) (B := Int64 × Int32 × Nat × Nat) (fun s_5 => (if s_5.2.2.1 ≤ 300 ∧ s_5.2.2.2 ≤ 600 then (if 5 ≤ s_5.2.1 then some (.inr (s_5.1, s_5.2.1, s_5.2.2.1, s_5.2.2.2)) else ((fX9_bestTold_i (nI r) (nI k) (nI c) (nI g) (nI s) r k G k c H K s_5.2.1).bind fun x_32 => (if s_5.2.2.1 + 30 ≤ 300 ∧ s_5.2.2.2 + 60 ≤ 600 then ((fX9_add s_5.1 x_32.toInt64).bind fun x_37 => some (.inl (x_37, s_5.2.1 + 1, s_5.2.2.1 + 30, s_5.2.2.2 + 60))) else none))) else none)) yFuel (d6, 0, 0, 0)) = some (yD4 (fun i => yBT (r + s) (c + s) (yJst r k c g G H) (yJb r k c g s G H K) i) d6, nI 5, 150, 300) := by
  obtain ⟨⟨a1, a2⟩, ⟨a3, a4⟩, ⟨a5, a6⟩, a7, a8⟩ := id J
  
  
  refine wl_eq (fun w => (yFold w (fun w d => yAd d ((fun i => yBT (r + s) (c + s) (yJst r k c g G H) (yJb r k c g s G H K) i) (nI w))) d6, nI w, 30 * w, 60 * w)) 0 5 (b := (yD4 (fun i => yBT (r + s) (c + s) (yJst r k c g G H) (yJb r k c g s G H K) i) d6, nI 5, 150, 300)) rfl (by decide) (by decide) (fun w _ hw => ?_) ?_
  · dsimp only
    refine (if_pos ⟨by omega, by omega⟩).trans ?_
    refine (if_neg (fun w => by rw [li5, nj_le (by decide) (by omega)] at w; omega)).trans ?_
    refine bto (e_bestTold_i J) ?_
    refine (if_pos ⟨by omega, by omega⟩).trans ?_
    refine bto (e_add _ _) ?_
    rw [nj_p1, Nat.mul_succ, Nat.mul_succ]
    rfl
  · dsimp only
    exact (if_pos ⟨by omega, by omega⟩).trans (if_pos (show (5 : Int32) ≤ nI 5 by decide))
theorem e_digest_i {r k c g s Rn Rk : Nat} {G H B K U R : Nat → Nat → Int32} {be wo : Int32} {ta : Int64} (J : yJob r k c g s) (hRn : Rn ≤ 9) (hRk : Rk ≤ 9) : fX9_digest_i be wo ta (nI r) (nI k) (nI c) (nI g) (nI s) r k G k c H B K U Rn Rk R = some (yDigi r k c g s G H B K U be wo ta Rn Rk R, 0) := by
  obtain ⟨⟨a1, a2⟩, ⟨a3, a4⟩, ⟨a5, a6⟩, a7, a8⟩ := id J
  
  
  unfold fX9_digest_i yDigi
  refine bto (e_dg0_i (G := G) (H := H) (B := B) (K := K) (U := U) (R := R) (be := be) (wo := wo) (ta := ta) J hRn hRk) ?_
  dsimp only
  generalize yD1 (yMv r k c g s G H B K be wo Rn Rk (0, 0, -1)) 5659 = d1
  refine bto (e_dg1_i (G := G) (H := H) (B := B) (K := K) (U := U) (R := R) (be := be) (wo := wo) (ta := ta) J hRn hRk) ?_
  dsimp only
  generalize yD2 (fun i j w => yCT B K U 0 (-1) i j (nI w)) d1 = d4
  refine bto (e_dg2_i (G := G) (H := H) (B := B) (K := K) (U := U) (R := R) (be := be) (wo := wo) (ta := ta) J hRn hRk) ?_
  dsimp only
  generalize yD3 Rn Rk R d4 = d5
  refine bto (e_dg3_i (G := G) (H := H) (B := B) (K := K) (U := U) (R := R) (be := be) (wo := wo) (ta := ta) J hRn hRk) ?_
  dsimp only
  generalize yD3 (r + s) (c + s) (fun i j => yPlain r k c g r G c H i j) d5 = d6
  refine bto (e_dg4_i (G := G) (H := H) (B := B) (K := K) (U := U) (R := R) (be := be) (wo := wo) (ta := ta) J hRn hRk) ?_
  dsimp only
  generalize yD4 (fun i => yBT (r + s) (c + s) (yJst r k c g G H) (yJb r k c g s G H K) i) d6 = d7
  refine (if_pos ⟨by omega, by omega⟩).trans ?_
  refine bto (e_savedNow_i J) ?_
  refine (if_pos ⟨by omega, by omega⟩).trans ?_
  refine bto (e_add _ _) ?_
  refine bto (e_isWhole_i J) ?_
  refine (if_pos ⟨by omega, by omega⟩).trans ?_
  refine bto (e_one _) ?_
  exact bto (e_add _ _) rfl
def yDigr (r k c g s : Nat) (G H B K U : Nat → Nat → Int32) (be wo : Int32) (ta : Int64) (Rn Rk : Nat) (R : Nat → Nat → Int32) (r2 k2 c2 g2 s2 lr lc ti go : Nat) (G2 H2 S : Nat → Nat → Int32) : Int64 := yAd (yAd (yD4 (fun i => yBT (r + s) (c + s) (yJst r k c g G H) (yJb r k c g s G H K) i) (yD3 (r + s) (c + s) (fun i j => yPlain r k c g r G c H i j) (yD3 Rn Rk R (yD2 (fun i j w => yCT B K U (if yDoes r2 c2 s2 lr lc ti i j = true then S i j else 0) (yC3 r2 k2 c2 g2 s2 lr lc G2 H2 ti go i j) i j (nI w)) (yD1 (yMv r k c g s G H B K be wo Rn Rk (1, nI (yFrom r2 c2 s2 lr lc (yJst r2 k2 c2 g2 G2 H2) ti - go), nI ti)) 5659))))) (ySvr r k c g s G H K)) (yb (yWh K B U (r + s) (c + s) (yJst r k c g G H) (yJb r k c g s G H K) ta (decide (0 < yFrom r2 c2 s2 lr lc (yJst r2 k2 c2 g2 G2 H2) ti - go))))
theorem e_dg0_r {r k c g s Rn Rk : Nat} {G H B K U R : Nat → Nat → Int32} {be wo : Int32} {ta : Int64} {r2 k2 c2 g2 s2 lr lc ti go : Nat} {G2 H2 S : Nat → Nat → Int32} (J : yJob r k c g s) (hRn : Rn ≤ 9) (hRk : Rk ≤ 9) (J2 : yJob r2 k2 c2 g2 s2) (Y : yLay lr lc) (ht : ti < yNt r2 c2 s2 lr lc) (hg : go < yTb r2 c2 s2 lr lc (yJst r2 k2 c2 g2 G2 H2) ti) : (wl (S := Int64 × Int32) (B := Int64 × Int32) (fun s_1 => (if 16 ≤ s_1.2 then some (.inr (s_1.1, s_1.2)) else ((fX9_meshTold_r be wo (nI lr) (nI lc) (nI ti) (nI go) (nI r) (nI k) (nI c) (nI g) (nI s) r k G k c H B K Rn Rk (nI r2) (nI k2) (nI c2) (nI g2) (nI s2) r2 k2 G2 k2 c2 H2 s_1.2).bind fun x_92 => ((fX9_add s_1.1 x_92.toInt64).bind fun x_96 => some (.inl (x_96, s_1.2 + 1)))))) yFuel (5659, 0)) = some (yD1 (yMv r k c g s G H B K be wo Rn Rk (1, nI (yFrom r2 c2 s2 lr lc (yJst r2 k2 c2 g2 G2 H2) ti - go), nI ti)) 5659, nI 16) := by
  obtain ⟨⟨a1, a2⟩, ⟨a3, a4⟩, ⟨a5, a6⟩, a7, a8⟩ := id J
  have gg := yGeo J2 Y
  have tb := yTb_of (st := yJst r2 k2 c2 g2 G2 H2) J2 Y ht (yJst_of G2 H2 J2).1 (by have := (yJst_of G2 H2 J2).2; have := J2.2.1.2; omega)
  refine wl_fold (fun w d => yAd d (yMT (yMv r k c g s G H B K be wo Rn Rk (1, nI (yFrom r2 c2 s2 lr lc (yJst r2 k2 c2 g2 G2 H2) ti - go), nI ti)) (nI w))) 16 5659 (by decide) (fun i d hi => ?_) (fun d => ?_)
  · refine (if_neg (fun w => by rw [show (16 : Int32) = nI 16 from rfl, nj_le (by decide) (by omega)] at w; omega)).trans ?_
    refine bto (e_meshTold_r J hRn J2 Y ht hg) ?_
    refine bto (e_add _ _) ?_
    rw [nj_p1]
    rfl
  · exact if_pos (show (16 : Int32) ≤ nI 16 by decide)
theorem e_dg1_r {r k c g s Rn Rk : Nat} {G H B K U R : Nat → Nat → Int32} {be wo : Int32} {ta : Int64} {r2 k2 c2 g2 s2 lr lc ti go : Nat} {G2 H2 S : Nat → Nat → Int32} (J : yJob r k c g s) (hRn : Rn ≤ 9) (hRk : Rk ≤ 9) (J2 : yJob r2 k2 c2 g2 s2) (Y : yLay lr lc) (ht : ti < yNt r2 c2 s2 lr lc) (hg : go < yTb r2 c2 s2 lr lc (yJst r2 k2 c2 g2 G2 H2) ti) {d1 : Int64} : (wl (S := Int64 × Int32) (B := Int64 × Int32) (fun s_2 => (if 5 ≤ s_2.2 then some (.inr (s_2.1, s_2.2)) else ((wl (S := Int64 × Int32) (B := Int64 × Int32) (fun s_76 => (if 5 ≤ s_76.2 then some (.inr (s_76.1, s_76.2)) else ((wl (S := Int64 × Int32) (B := Int64 × Int32) (fun s_79 => (if 4 ≤ s_79.2 then some (.inr (s_79.1, s_79.2)) else ((fX9_cellTold_r (nI lr) (nI lc) (nI ti) (nI go) B K U S (nI r2) (nI k2) (nI c2) (nI g2) (nI s2) r2 k2 G2 k2 c2 H2 s_2.2 s_76.2 s_79.2).bind fun x_82 => ((fX9_add s_79.1 x_82.toInt64).bind fun x_86 => some (.inl (x_86, s_79.2 + 1)))))) yFuel (s_76.1, 0)).bind fun b_79 => some (.inl (b_79.1, s_76.2 + 1))))) yFuel (s_2.1, 0)).bind fun b_76 => some (.inl (b_76.1, s_2.2 + 1))))) yFuel (d1, 0)) = some (yD2 (fun i j w => yCT B K U (if yDoes r2 c2 s2 lr lc ti i j = true then S i j else 0) (yC3 r2 k2 c2 g2 s2 lr lc G2 H2 ti go i j) i j (nI w)) d1, nI 5) := by
  obtain ⟨⟨a1, a2⟩, ⟨a3, a4⟩, ⟨a5, a6⟩, a7, a8⟩ := id J
  have gg := yGeo J2 Y
  have tb := yTb_of (st := yJst r2 k2 c2 g2 G2 H2) J2 Y ht (yJst_of G2 H2 J2).1 (by have := (yJst_of G2 H2 J2).2; have := J2.2.1.2; omega)
  refine wl_fold (fun i d => yFold 5 (fun j d => yFold 4 (fun w d => yAd d ((fun i j w => yCT B K U (if yDoes r2 c2 s2 lr lc ti i j = true then S i j else 0) (yC3 r2 k2 c2 g2 s2 lr lc G2 H2 ti go i j) i j (nI w)) i j w)) d) d) 5 d1 (by decide) (fun i d hi => ?_) (fun d => ?_)
  · refine (if_neg (fun w => by rw [li5, nj_le (by decide) (by omega)] at w; omega)).trans ?_
    refine bto (wl_fold (fun j d => yFold 4 (fun w d => yAd d ((fun i j w => yCT B K U (if yDoes r2 c2 s2 lr lc ti i j = true then S i j else 0) (yC3 r2 k2 c2 g2 s2 lr lc G2 H2 ti go i j) i j (nI w)) i j w)) d) 5 d (by decide) (fun j d hj => ?_) (fun d => ?_)) ?_
    · refine (if_neg (fun w => by rw [li5, nj_le (by decide) (by omega)] at w; omega)).trans ?_
      refine bto (wl_fold (fun w d => yAd d ((fun i j w => yCT B K U (if yDoes r2 c2 s2 lr lc ti i j = true then S i j else 0) (yC3 r2 k2 c2 g2 s2 lr lc G2 H2 ti go i j) i j (nI w)) i j w)) 4 d (by decide) (fun w d hw => ?_) (fun d => ?_)) ?_
      · refine (if_neg (fun w => by rw [li4, nj_le (by decide) (by omega)] at w; omega)).trans ?_
        refine bto (e_cellTold_r J2 Y ht (by omega) hi hj) ?_
        refine bto (e_add _ _) ?_
        rw [nj_p1]
        rfl
      · exact if_pos (show (4 : Int32) ≤ nI 4 by decide)
      · dsimp only
        rw [nj_p1]
    · exact if_pos (show (5 : Int32) ≤ nI 5 by decide)
    · dsimp only
      rw [nj_p1]
  · exact if_pos (show (5 : Int32) ≤ nI 5 by decide)
theorem e_dg2_r {r k c g s Rn Rk : Nat} {G H B K U R : Nat → Nat → Int32} {be wo : Int32} {ta : Int64} {r2 k2 c2 g2 s2 lr lc ti go : Nat} {G2 H2 S : Nat → Nat → Int32} (J : yJob r k c g s) (hRn : Rn ≤ 9) (hRk : Rk ≤ 9) (J2 : yJob r2 k2 c2 g2 s2) (Y : yLay lr lc) (ht : ti < yNt r2 c2 s2 lr lc) (hg : go < yTb r2 c2 s2 lr lc (yJst r2 k2 c2 g2 G2 H2) ti) {d4 : Int64} : (wl (S := Int64 × Int32) (B := Int64 × Int32) (fun s_3 => (if (nI Rn) ≤ s_3.2 then some (.inr (s_3.1, s_3.2)) else (if ¬ (s_3.2 < 0 ∨ Rn ≤ s_3.2.toNatClampNeg) then ((wl (S := Int64 × Int32) (B := Int64 × Int32) (fun s_65 => (if (nI Rk) ≤ s_65.2 then some (.inr (s_65.1, s_65.2)) else (if ¬ (s_65.2 < 0 ∨ Rk ≤ s_65.2.toNatClampNeg) then (ylet (R s_3.2.toNatClampNeg s_65.2.toNatClampNeg : Int32) fun y_69 => ((fX9_add s_65.1 y_69.toInt64).bind fun x_70 => some (.inl (x_70, s_65.2 + 1)))) else none))) yFuel (s_3.1, 0)).bind fun b_65 => some (.inl (b_65.1, s_3.2 + 1))) else none))) yFuel (d4, 0)) = some (yD3 Rn Rk R d4, nI Rn) := by
  obtain ⟨⟨a1, a2⟩, ⟨a3, a4⟩, ⟨a5, a6⟩, a7, a8⟩ := id J
  have gg := yGeo J2 Y
  have tb := yTb_of (st := yJst r2 k2 c2 g2 G2 H2) J2 Y ht (yJst_of G2 H2 J2).1 (by have := (yJst_of G2 H2 J2).2; have := J2.2.1.2; omega)
  refine wl_fold (fun i d => yFold Rk (fun j d => yAd d (R i j)) d) Rn d4 (by omega) (fun i d hi => ?_) (fun d => ?_)
  · refine (if_neg (fun w => by rw [nj_le (by omega) (by omega)] at w; omega)).trans ?_
    refine (if_pos (nj_in hi (by omega))).trans ?_
    refine bto (wl_fold (fun j d => yAd d (R i j)) Rk d (by omega) (fun j d hj => ?_) (fun d => ?_)) ?_
    · refine (if_neg (fun w => by rw [nj_le (by omega) (by omega)] at w; omega)).trans ?_
      refine (if_pos (nj_in hj (by omega))).trans ?_
      unfold ylet
      dsimp only
      rw [nj_cl (by omega), nj_cl (by omega)]
      refine bto (e_add _ _) ?_
      rw [nj_p1]
      rfl
    · exact if_pos (Int32.le_refl _)
    · dsimp only
      rw [nj_p1]
  · exact if_pos (Int32.le_refl _)
theorem e_dg3_r {r k c g s Rn Rk : Nat} {G H B K U R : Nat → Nat → Int32} {be wo : Int32} {ta : Int64} {r2 k2 c2 g2 s2 lr lc ti go : Nat} {G2 H2 S : Nat → Nat → Int32} (J : yJob r k c g s) (hRn : Rn ≤ 9) (hRk : Rk ≤ 9) (J2 : yJob r2 k2 c2 g2 s2) (Y : yLay lr lc) (ht : ti < yNt r2 c2 s2 lr lc) (hg : go < yTb r2 c2 s2 lr lc (yJst r2 k2 c2 g2 G2 H2) ti) {d5 : Int64} : (wl (S := Int64 × Int32) (B := Int64 × Int32) (fun s_4 => ((fX8_rows (nI r) (nI s)).bind fun x_41 => (if x_41 ≤ s_4.2 then some (.inr (s_4.1, s_4.2)) else ((wl (S := Int64 × Int32) (B := Int64 × Int32) (fun s_47 => ((fX8_columns (nI c) (nI s)).bind fun x_48 => (if x_48 ≤ s_47.2 then some (.inr (s_47.1, s_47.2)) else ((fX8_plain (nI r) (nI k) (nI c) (nI g) r k G k c H s_4.2 s_47.2).bind fun x_54 => ((fX9_add s_47.1 x_54.toInt64).bind fun x_58 => some (.inl (x_58, s_47.2 + 1))))))) yFuel (s_4.1, 0)).bind fun b_47 => some (.inl (b_47.1, s_4.2 + 1)))))) yFuel (d5, 0)) = some (yD3 (r + s) (c + s) (fun i j => yPlain r k c g r G c H i j) d5, nI (r + s)) := by
  obtain ⟨⟨a1, a2⟩, ⟨a3, a4⟩, ⟨a5, a6⟩, a7, a8⟩ := id J
  have gg := yGeo J2 Y
  have tb := yTb_of (st := yJst r2 k2 c2 g2 G2 H2) J2 Y ht (yJst_of G2 H2 J2).1 (by have := (yJst_of G2 H2 J2).2; have := J2.2.1.2; omega)
  refine wl_fold (fun i d => yFold (c + s) (fun j d => yAd d ((fun i j => yPlain r k c g r G c H i j) i j)) d) (r + s) d5 (by omega) (fun i d hi => ?_) (fun d => ?_)
  · refine bto (e_rows a8) ?_
    refine (if_neg (fun w => by rw [nj_le (by omega) (by omega)] at w; omega)).trans ?_
    refine bto (wl_fold (fun j d => yAd d ((fun i j => yPlain r k c g r G c H i j) i j)) (c + s) d (by omega) (fun j d hj => ?_) (fun d => ?_)) ?_
    · refine bto (e_columns a8) ?_
      refine (if_neg (fun w => by rw [nj_le (by omega) (by omega)] at w; omega)).trans ?_
      refine bto (e_plain a7 (by omega) (by omega) (by omega) (by omega) a4 (Nat.le_refl _) (Nat.le_refl _) (by omega) (by omega) (by omega) (by omega)) ?_
      refine bto (e_add _ _) ?_
      rw [nj_p1]
      rfl
    · refine bto (e_columns a8) ?_
      exact if_pos (Int32.le_refl _)
    · dsimp only
      rw [nj_p1]
  · refine bto (e_rows a8) ?_
    exact if_pos (Int32.le_refl _)
theorem e_dg4_r {r k c g s Rn Rk : Nat} {G H B K U R : Nat → Nat → Int32} {be wo : Int32} {ta : Int64} {r2 k2 c2 g2 s2 lr lc ti go : Nat} {G2 H2 S : Nat → Nat → Int32} (J : yJob r k c g s) (hRn : Rn ≤ 9) (hRk : Rk ≤ 9) (J2 : yJob r2 k2 c2 g2 s2) (Y : yLay lr lc) (ht : ti < yNt r2 c2 s2 lr lc) (hg : go < yTb r2 c2 s2 lr lc (yJst r2 k2 c2 g2 G2 H2) ti) {d6 : Int64} : (wl (S := Int64 × Int32 × Nat × Nat) (B := Int64 × Int32 × Nat × Nat) (fun s_5 => (if s_5.2.2.1 ≤ 300 ∧ s_5.2.2.2 ≤ 600 then (if 5 ≤ s_5.2.1 then some (.inr (s_5.1, s_5.2.1, s_5.2.2.1, s_5.2.2.2)) else ((fX9_bestTold_r (nI r) (nI k) (nI c) (nI g) (nI s) r k G k c H K s_5.2.1).bind fun x_32 => (if s_5.2.2.1 + 30 ≤ 300 ∧ s_5.2.2.2 + 60 ≤ 600 then ((fX9_add s_5.1 x_32.toInt64).bind fun x_37 => some (.inl (x_37, s_5.2.1 + 1, s_5.2.2.1 + 30, s_5.2.2.2 + 60))) else none))) else none)) yFuel (d6, 0, 0, 0)) = some (yD4 (fun i => yBT (r + s) (c + s) (yJst r k c g G H) (yJb r k c g s G H K) i) d6, nI 5, 150, 300) := by
  obtain ⟨⟨a1, a2⟩, ⟨a3, a4⟩, ⟨a5, a6⟩, a7, a8⟩ := id J
  have gg := yGeo J2 Y
  have tb := yTb_of (st := yJst r2 k2 c2 g2 G2 H2) J2 Y ht (yJst_of G2 H2 J2).1 (by have := (yJst_of G2 H2 J2).2; have := J2.2.1.2; omega)
  refine wl_eq (fun w => (yFold w (fun w d => yAd d ((fun i => yBT (r + s) (c + s) (yJst r k c g G H) (yJb r k c g s G H K) i) (nI w))) d6, nI w, 30 * w, 60 * w)) 0 5 (b := (yD4 (fun i => yBT (r + s) (c + s) (yJst r k c g G H) (yJb r k c g s G H K) i) d6, nI 5, 150, 300)) rfl (by decide) (by decide) (fun w _ hw => ?_) ?_
  · dsimp only
    refine (if_pos ⟨by omega, by omega⟩).trans ?_
    refine (if_neg (fun w => by rw [li5, nj_le (by decide) (by omega)] at w; omega)).trans ?_
    refine bto (e_bestTold_r J) ?_
    refine (if_pos ⟨by omega, by omega⟩).trans ?_
    refine bto (e_add _ _) ?_
    rw [nj_p1, Nat.mul_succ, Nat.mul_succ]
    rfl
  · dsimp only
    exact (if_pos ⟨by omega, by omega⟩).trans (if_pos (show (5 : Int32) ≤ nI 5 by decide))
theorem e_digest_r {r k c g s Rn Rk : Nat} {G H B K U R : Nat → Nat → Int32} {be wo : Int32} {ta : Int64} {r2 k2 c2 g2 s2 lr lc ti go : Nat} {G2 H2 S : Nat → Nat → Int32} (J : yJob r k c g s) (hRn : Rn ≤ 9) (hRk : Rk ≤ 9) (J2 : yJob r2 k2 c2 g2 s2) (Y : yLay lr lc) (ht : ti < yNt r2 c2 s2 lr lc) (hg : go < yTb r2 c2 s2 lr lc (yJst r2 k2 c2 g2 G2 H2) ti) : fX9_digest_r be wo ta (nI lr) (nI lc) (nI ti) (nI go) (nI r) (nI k) (nI c) (nI g) (nI s) r k G k c H B K U S Rn Rk R (nI r2) (nI k2) (nI c2) (nI g2) (nI s2) r2 k2 G2 k2 c2 H2 = some (yDigr r k c g s G H B K U be wo ta Rn Rk R r2 k2 c2 g2 s2 lr lc ti go G2 H2 S, 0) := by
  obtain ⟨⟨a1, a2⟩, ⟨a3, a4⟩, ⟨a5, a6⟩, a7, a8⟩ := id J
  have gg := yGeo J2 Y
  have tb := yTb_of (st := yJst r2 k2 c2 g2 G2 H2) J2 Y ht (yJst_of G2 H2 J2).1 (by have := (yJst_of G2 H2 J2).2; have := J2.2.1.2; omega)
  unfold fX9_digest_r yDigr
  refine bto (e_dg0_r (G := G) (H := H) (B := B) (K := K) (U := U) (R := R) (be := be) (wo := wo) (ta := ta) (S := S) J hRn hRk J2 Y ht hg) ?_
  dsimp only
  generalize yD1 (yMv r k c g s G H B K be wo Rn Rk (1, nI (yFrom r2 c2 s2 lr lc (yJst r2 k2 c2 g2 G2 H2) ti - go), nI ti)) 5659 = d1
  refine bto (e_dg1_r (G := G) (H := H) (B := B) (K := K) (U := U) (R := R) (be := be) (wo := wo) (ta := ta) (S := S) J hRn hRk J2 Y ht hg) ?_
  dsimp only
  generalize yD2 (fun i j w => yCT B K U (if yDoes r2 c2 s2 lr lc ti i j = true then S i j else 0) (yC3 r2 k2 c2 g2 s2 lr lc G2 H2 ti go i j) i j (nI w)) d1 = d4
  refine bto (e_dg2_r (G := G) (H := H) (B := B) (K := K) (U := U) (R := R) (be := be) (wo := wo) (ta := ta) (S := S) J hRn hRk J2 Y ht hg) ?_
  dsimp only
  generalize yD3 Rn Rk R d4 = d5
  refine bto (e_dg3_r (G := G) (H := H) (B := B) (K := K) (U := U) (R := R) (be := be) (wo := wo) (ta := ta) (S := S) J hRn hRk J2 Y ht hg) ?_
  dsimp only
  generalize yD3 (r + s) (c + s) (fun i j => yPlain r k c g r G c H i j) d5 = d6
  refine bto (e_dg4_r (G := G) (H := H) (B := B) (K := K) (U := U) (R := R) (be := be) (wo := wo) (ta := ta) (S := S) J hRn hRk J2 Y ht hg) ?_
  dsimp only
  generalize yD4 (fun i => yBT (r + s) (c + s) (yJst r k c g G H) (yJb r k c g s G H K) i) d6 = d7
  refine (if_pos ⟨by omega, by omega⟩).trans ?_
  refine bto (e_savedNow_r J) ?_
  refine (if_pos ⟨by omega, by omega⟩).trans ?_
  refine bto (e_add _ _) ?_
  refine bto (e_isWhole_r J J2 Y ht hg) ?_
  refine (if_pos ⟨by omega, by omega⟩).trans ?_
  refine bto (e_one _) ?_
  exact bto (e_add _ _) rfl
theorem o_X9_row_i {B K : Nat → Nat → Int32} {i1 : Int32} : Ok (fX9_row_i B K i1) (fun _ => True) := by
  have e0 : Int32.toInt 0 = 0 := by decide
  have e4 : Int32.toInt 4 = 4 := by decide
  unfold fX9_row_i fJ4_init_da8c8 fJ5_init_d00df
  refine Ok.to e_isIn ?_
  rw [yb_not, e0, e4]
  refine Ok.to rfl ?_
  refine Ok.to (e_start_i (by decide)) ?_
  cases e : yIn i1 0 4
  · exact Ok.ite (fun z => absurd z (by decide)) (fun _ => Ok.some trivial)
  have hv := of_decide_eq_true e
  refine Ok.ite (fun _ => ?_) (fun z => absurd rfl z)
  refine Ok.bind (P := fun _ => True) (Ok.bind (P := fun _ => True) (Ok.some trivial) (fun _ _ => Ok.some trivial)) (fun _ _ => ?_)
  refine Ok.bind (Ok.ct (P := fun (b : Int32 × Int32 × (Nat → Int32)) => b.2.1 = 5 ∧ Fb b.2.2) (fun (s : Int32 × Int32 × (Nat → Int32)) => s.2.1 = s.1 ∧ s.1.toInt ≤ 5 ∧ Fb s.2.2) (fun s => s.1) 5 ⟨rfl, by decide, fun _ => (show fits .byte (.int 0) = true by decide)⟩ (show (0 : Int) ≤ Int32.toInt 0 by decide) (by decide) (fun s i z => ?_)) (fun b hb => ?_)
  · obtain ⟨j1, j2, j3⟩ := i
    refine Ok.ite (fun cc => ?_) (fun cc => ?_)
    · refine Ok.some ⟨?_, j3⟩
      show s.2.1 = 5
      rw [j1, yi_e5 j2 cc]
    · have lt := yi_nle cc (n := 5) (by decide)
      skip
      refine Ok.grd (yi_in hv.1 (by omega)) ?_
      refine Ok.grd (yi_in z (by omega)) ?_
      refine Ok.bind (P := fun x => Ch x) ?_ (fun x hx => ?_)
      · refine Ok.ite (fun _ => ?_) (fun _ => Ok.some (by decide))
        refine Ok.grd (yi_in hv.1 (by omega)) ?_
        refine Ok.grd (yi_in z (by omega)) ?_
        exact Ok.ite (fun _ => Ok.some (by decide)) (fun _ => Ok.some (by decide))
      refine Ok.bind (o_J4_append (by rw [j1]; exact z) (by rw [j1]; omega) hx j3) (fun y hy => ?_)
      refine Ok.some ⟨lt, rfl, ?_, ?_, hy.2⟩
      · show y.1 = s.1 + 1
        rw [hy.1, j1]
      · show (s.1 + 1).toInt ≤ 5
        rw [yi_1 lt (by decide)]
        omega
  · exact Ok.bind (o_J4_toString hb.1 hb.2) (fun _ _ => Ok.some trivial)
theorem o_X9_row_r {B K : Nat → Nat → Int32} {i1 lr lc : Int32} : Ok (fX9_row_r lr lc B K i1) (fun _ => True) := by
  have e0 : Int32.toInt 0 = 0 := by decide
  have e4 : Int32.toInt 4 = 4 := by decide
  unfold fX9_row_r fJ4_init_da8c8 fJ5_init_d00df
  refine Ok.to e_isIn ?_
  rw [yb_not, e0, e4]
  refine Ok.to rfl ?_
  refine Ok.to (e_start_r (by decide)) ?_
  cases e : yIn i1 0 4
  · exact Ok.ite (fun z => absurd z (by decide)) (fun _ => Ok.some trivial)
  have hv := of_decide_eq_true e
  refine Ok.ite (fun _ => ?_) (fun z => absurd rfl z)
  refine Ok.bind (P := fun _ => True) (Ok.bind (P := fun _ => True) (Ok.some trivial) (fun _ _ => Ok.some trivial)) (fun _ _ => ?_)
  refine Ok.bind (Ok.ct (P := fun (b : Int32 × Int32 × (Nat → Int32)) => b.2.1 = 5 ∧ Fb b.2.2) (fun (s : Int32 × Int32 × (Nat → Int32)) => s.2.1 = s.1 ∧ s.1.toInt ≤ 5 ∧ Fb s.2.2) (fun s => s.1) 5 ⟨rfl, by decide, fun _ => (show fits .byte (.int 0) = true by decide)⟩ (show (0 : Int) ≤ Int32.toInt 0 by decide) (by decide) (fun s i z => ?_)) (fun b hb => ?_)
  · obtain ⟨j1, j2, j3⟩ := i
    refine Ok.ite (fun cc => ?_) (fun cc => ?_)
    · refine Ok.some ⟨?_, j3⟩
      show s.2.1 = 5
      rw [j1, yi_e5 j2 cc]
    · have lt := yi_nle cc (n := 5) (by decide)
      refine Ok.bind o_X9_has (fun _ _ => ?_)
      refine Ok.bind (P := fun _ => True) (Ok.ite (fun _ => Ok.some trivial) (fun _ => Ok.bind o_X9_has (fun _ _ => Ok.ite (fun _ => Ok.some trivial) (fun _ => Ok.some trivial)))) (fun _ _ => ?_)
      refine Ok.grd (yi_in hv.1 (by omega)) ?_
      refine Ok.grd (yi_in z (by omega)) ?_
      refine Ok.bind (P := fun x => Ch x) ?_ (fun x hx => ?_)
      · refine Ok.ite (fun _ => ?_) (fun _ => Ok.some (by decide))
        refine Ok.grd (yi_in hv.1 (by omega)) ?_
        refine Ok.grd (yi_in z (by omega)) ?_
        exact Ok.ite (fun _ => Ok.ite (fun _ => Ok.some (by decide)) (fun _ => Ok.some (by decide))) (fun _ => Ok.some (by decide))
      refine Ok.bind (o_J4_append (by rw [j1]; exact z) (by rw [j1]; omega) hx j3) (fun y hy => ?_)
      refine Ok.some ⟨lt, rfl, ?_, ?_, hy.2⟩
      · show y.1 = s.1 + 1
        rw [hy.1, j1]
      · show (s.1 + 1).toInt ≤ 5
        rw [yi_1 lt (by decide)]
        omega
  · exact Ok.bind (o_J4_toString hb.1 hb.2) (fun _ _ => Ok.some trivial)
