/-! ===== a beat in the class ===== -/
theorem yTl_iff {C w i : Nat} (h1 : 1 ≤ w) : i < yTl C w ↔ i * w < C := by
  refine ⟨yTl_lt h1, fun h => ?_⟩
  have c := yTl_cov (R := C) h1
  exact Nat.lt_of_mul_lt_mul_right (Nat.lt_of_lt_of_le h c)
theorem succ_in {t w : Nat} (h : t % w + 1 < w) : (t + 1) / w = t / w ∧ (t + 1) % w = t % w + 1 := by
  have e := Nat.div_add_mod t w
  have e2 : t + 1 = w * (t / w) + (t % w + 1) := by omega
  refine ⟨?_, ?_⟩
  · rw [e2, Nat.mul_add_div (by omega), Nat.div_eq_of_lt h, Nat.add_zero]
  · rw [e2, Nat.mul_add_mod, Nat.mod_eq_of_lt h]
theorem succ_out {t w : Nat} (hw : 1 ≤ w) (h : t % w + 1 = w) : (t + 1) / w = t / w + 1 ∧ (t + 1) % w = 0 := by
  have e := Nat.div_add_mod t w
  have e2 : t + 1 = w * (t / w + 1) := by
    rw [Nat.mul_add, Nat.mul_one]
    omega
  refine ⟨?_, ?_⟩
  · rw [e2, Nat.mul_div_cancel_left _ (by omega)]
  · rw [e2, Nat.mul_mod_right]
theorem yFrom_0 {r c s lr lc st ti : Nat} (h : yNt r c s lr lc ≤ ti) : yFrom r c s lr lc st ti = 0 := by
  unfold yFrom
  rw [Nat.sub_eq_zero_of_le h]
  rfl
theorem c_open {r c s : Nat} (h : s ≤ 1) : fX3_open (nI r) (nI c) (nI s) = some (nI (r + s), nI (c + s), nI s) := by
  have hs01 : nI s = 0 ∨ nI s = 1 := by
    rcases (show s = 0 ∨ s = 1 by omega) with rfl | rfl
    · exact Or.inl rfl
    · exact Or.inr rfl
  unfold fX3_open
  refine bto (c_rows h) ?_
  refine bto (c_columns h) ?_
  exact if_pos hs01
theorem c_openTile {g : Nat} {m : Nat → Int32} (hg : g ≤ 2) : fX5_openTile (nI g) m = some (0, yFl m (yFirst g) 81) := by
  unfold fX5_openTile
  refine bto (c_first hg) ?_
  exact bto e_fill rfl
theorem yT5_fill {g : Nat} {m : Nat → Int32} {S : Nat → Nat → Int32} : yT5 (yFl m (yFirst g) 81) (yFill g S) := by
  intro i j hi hj
  have e1 : yFl m (yFirst g) 81 (i * 9 + j) = yFirst g := if_pos (by omega)
  have e2 : yFill g S i j = yFirst g := if_pos ⟨hi, hj⟩
  rw [e1, e2]
theorem c_runs {n : Nat} (h : n < 2147483648) : fX5_runs (nI n) = some (yb (!(n == 0))) := by
  unfold fX5_runs
  by_cases c : n = 0
  · subst c
    rfl
  · refine (if_neg (fun z => ?_)).trans ?_
    · rw [li0, nj_le h (by decide)] at z
      omega
    · rw [beq_false_of_ne c]
      rfl
/-- what the class holds of a work that runs -/
def yCR (r k c g s lr lc : Nat) (G H : Nat → Nat → Int32) (z : yRS) (oti ofr ofc obt obl obe : Int32) (u m v : Nat → Int32) : Prop := oti = nI z.2.2.1 ∧ ofr = nI (z.2.2.1 / yWd c s lc * yPop lr) ∧ ofc = nI (z.2.2.1 % yWd c s lc * yPop lc) ∧ obt = nI z.2.2.2.1 ∧ obl = nI (yFrom r c s lr lc (yJst r k c g G H) z.2.2.1 - z.2.2.2.1) ∧ obe = z.1 ∧ yT5 u z.2.2.2.2.1 ∧ yT5 m z.2.2.2.2.2.1 ∧ yRel (fun a b => a < r + s ∧ b < c + s ∧ yDn (yPop lr) (yPop lc) (yWd c s lc) z.2.2.1 a b) v z.2.2.2.2.2.2.2.2
def yCE (r c s : Nat) (z : yRS) (obl obe zr zc zs : Int32) (u m v : Nat → Int32) : Prop := obl = 0 ∧ obe = z.1 ∧ yT5 u z.2.2.2.2.1 ∧ yT5 m z.2.2.2.2.2.1 ∧ zr = nI (r + s) ∧ zc = nI (c + s) ∧ zs = nI s ∧ yRel (fun a b => a < r + s ∧ b < c + s) v z.2.2.2.2.2.2.2.2
abbrev yPT : Type := Int32 × Int32 × Int32 × Int32 × Int32 × Int32 × Int32 × (Nat → Int32) × (Nat → Int32) × Int32 × Int32 × Int32 × (Nat → Int32)
def yPost (r k c g s lr lc : Nat) (G H B : Nat → Nat → Int32) (z : yRS) (zr zc zs otk : Int32) (o : yPT) : Prop := (match yOneZ r k c g s lr lc G H B z with
  | .inl q => yCR r k c g s lr lc G H q o.1 o.2.1 o.2.2.1 o.2.2.2.1 o.2.2.2.2.1 o.2.2.2.2.2.1 o.2.2.2.2.2.2.2.1 o.2.2.2.2.2.2.2.2.1 o.2.2.2.2.2.2.2.2.2.2.2.2 ∧ o.2.2.2.2.2.2.2.2.2.1 = zr ∧ o.2.2.2.2.2.2.2.2.2.2.1 = zc ∧ o.2.2.2.2.2.2.2.2.2.2.2.1 = zs
  | .inr q => yCE r c s q o.2.2.2.2.1 o.2.2.2.2.2.1 o.2.2.2.2.2.2.2.2.2.1 o.2.2.2.2.2.2.2.2.2.2.1 o.2.2.2.2.2.2.2.2.2.2.2.1 o.2.2.2.2.2.2.2.1 o.2.2.2.2.2.2.2.2.1 o.2.2.2.2.2.2.2.2.2.2.2.2) ∧ (z.2.2.2.1 + 1 = yTb r c s lr lc (yJst r k c g G H) z.2.2.1 → o.2.2.2.2.2.2.1 = otk + nI (yTr r c s lr lc z.2.2.1 * yTc c s lc z.2.2.1 * yJst r k c g G H)) ∧ (¬ z.2.2.2.1 + 1 = yTb r c s lr lc (yJst r k c g G H) z.2.2.1 → o.2.2.2.2.2.2.1 = otk)
theorem c_pulse {r k c g s lr lc : Nat} {f h u m v : Nat → Int32} {G H B : Nat → Nat → Int32} {wb oti ofr ofc obt obl obe otk zr zc zs : Int32} {z : yRS} (J : yJob r k c g s) (Y : yLay lr lc) (hz : yRI r k c g s lr lc (yJst r k c g G H) z) (hf : yTq r k f G) (hh : yTq k c h H) (hB : yFlag wb B) (hR : yCR r k c g s lr lc G H z oti ofr ofc obt obl obe u m v) : Ok (fX5_pulse (nI (ySk k (yIdle g r G c H))) oti ofr ofc obt obl obe otk (nI r) (nI c) (nI g) (nI s) f h (nI (r + s)) (nI (c + s)) (nI (yJst r k c g G H)) (nI lr) (nI lc) (nI (yPop lr)) (nI (yPop lc)) wb u m zr zc zs v) (yPost r k c g s lr lc G H B z zr zc zs otk) := by
  obtain ⟨be, ta, ti, go, U, S, Dn, Dk, D⟩ := z
  obtain ⟨ht, hgo, hD⟩ := hz
  obtain ⟨r1, r2, r3, r4, r5, r6, hu, hm, hv⟩ := hR
  dsimp only at ht hgo hD r1 r2 r3 r4 r5 r6 hu hm hv
  obtain ⟨g1, g2, g3, g4, g5, g6⟩ := yGeo J Y
  have uu := yTr_of J Y ht
  have vv := yTc_of ti J Y
  obtain ⟨⟨a1, a2⟩, ⟨a3, a4⟩, ⟨a5, a6⟩, a7, a8⟩ := id J
  obtain ⟨⟨b1, b2⟩, b3, b4⟩ := id Y
  have st := yJst_of G H J
  have tb := yTb_of (st := yJst r k c g G H) J Y ht st.1 (by omega)
  have ff := yFrom_step (st := yJst r k c g G H) ht
  have fl := yFrom_le (ti := ti) (st := yJst r k c g G H) J Y st.1 (by omega)
  subst r1 r2 r3 r4 r5
  have r6 := r6.symm
  subst r6
  have eR : fX5_tileRows (nI (ti / yWd c s lc * yPop lr)) (nI (r + s)) (nI (yPop lr)) = some (nI (yTr r c s lr lc ti)) := c_tileRows (by omega) (by omega) (by omega)
  have eC : fX5_tileColumns (nI (ti % yWd c s lc * yPop lc)) (nI (c + s)) (nI (yPop lc)) = some (nI (yTc c s lc ti)) := c_tileColumns (by omega) (by omega) (by omega)
  have eB : fX5_beatsOfTile (nI (ti / yWd c s lc * yPop lr)) (nI (ti % yWd c s lc * yPop lc)) (nI (r + s)) (nI (c + s)) (nI (yJst r k c g G H)) (nI (yPop lr)) (nI (yPop lc)) = some (nI (yTb r c s lr lc (yJst r k c g G H) ti)) := by
    unfold fX5_beatsOfTile
    refine bto eR ?_
    refine bto eC ?_
    rw [nj_add, nj_add, li1, nj_sub (by omega)]
    rfl
  unfold fX5_pulse
  refine Ok.bind (P := fun (b : Int32 × (Nat → Int32) × (Nat → Int32)) => yT5 b.2.1 (yWave r k c g s lr lc G H B ti go (yTr r c s lr lc ti) (ta, U, S)).2.1 ∧ yT5 b.2.2 (yWave r k c g s lr lc G H B ti go (yTr r c s lr lc ti) (ta, U, S)).2.2) (Ok.for (fun (i : Nat) (y : Int32 × (Nat → Int32) × (Nat → Int32)) => y.1 = nI i ∧ yT5 y.2.1 (yWave r k c g s lr lc G H B ti go i (ta, U, S)).2.1 ∧ yT5 y.2.2 (yWave r k c g s lr lc G H B ti go i (ta, U, S)).2.2) 0 (yTr r c s lr lc ti) ⟨rfl, hu, hm⟩ (Nat.zero_le _) (by omega) (fun i y _ hi hI => ?_) (fun y hI => ?_)) (fun b hb => ?_)
  · obtain ⟨y1, y2, y3⟩ := y
    obtain ⟨hy, hu, hm⟩ := hI
    have hy : y1 = nI i := hy
    subst hy
    have hW : yWave r k c g s lr lc G H B ti go (i + 1) (ta, U, S) = yWrow r k c g s lr lc G H B ti go i (yTc c s lc ti) (yWave r k c g s lr lc G H B ti go i (ta, U, S)) := rfl
    rw [hW]
    generalize yWave r k c g s lr lc G H B ti go i (ta, U, S) = w at hu hm ⊢
    dsimp only at hu hm ⊢
    refine Ok.to eR ?_
    refine Ok.ite (fun w => absurd w (by rw [nj_le (by omega) (by omega)]; omega)) (fun _ => ?_)
    refine Ok.bind (P := fun (b : Int32 × (Nat → Int32) × (Nat → Int32)) => yT5 b.2.1 (yWrow r k c g s lr lc G H B ti go i (yTc c s lc ti) w).2.1 ∧ yT5 b.2.2 (yWrow r k c g s lr lc G H B ti go i (yTc c s lc ti) w).2.2) (Ok.for (fun (j : Nat) (y : Int32 × (Nat → Int32) × (Nat → Int32)) => y.1 = nI j ∧ yT5 y.2.1 (yWrow r k c g s lr lc G H B ti go i j w).2.1 ∧ yT5 y.2.2 (yWrow r k c g s lr lc G H B ti go i j w).2.2) 0 (yTc c s lc ti) ⟨rfl, hu, hm⟩ (Nat.zero_le _) (by omega) (fun j y _ hj hI => ?_) (fun y hI => ?_)) (fun b hb => Ok.some ⟨nj_p1 _, hb.1, hb.2⟩)
    · obtain ⟨y1, y2, y3⟩ := y
      obtain ⟨hy, hu, hm⟩ := hI
      have hy : y1 = nI j := hy
      subst hy
      have hW : yWrow r k c g s lr lc G H B ti go i (j + 1) w = yCell r k c g s lr lc G H B ti go i j (yWrow r k c g s lr lc G H B ti go i j w) := rfl
      rw [hW]
      generalize yWrow r k c g s lr lc G H B ti go i j w = q at hu hm ⊢
      dsimp only at hu hm ⊢
      refine Ok.to eC ?_
      refine Ok.ite (fun w => absurd w (by rw [nj_le (by omega) (by omega)]; omega)) (fun _ => ?_)
      exact Ok.bind (c_feed J Y ht hf hh hB (by omega) hi hj hu hm) (fun o ho => Ok.some ⟨nj_p1 _, ho.1, ho.2⟩)
    · obtain ⟨y1, y2, y3⟩ := y
      obtain ⟨hy, hu, hm⟩ := hI
      have hy : y1 = nI (yTc c s lc ti) := hy
      subst hy
      refine Ok.to eC ?_
      exact Ok.ite (fun _ => Ok.some ⟨hu, hm⟩) (fun w => absurd (Int32.le_refl _) w)
  · obtain ⟨y1, y2, y3⟩ := y
    obtain ⟨hy, hu, hm⟩ := hI
    have hy : y1 = nI (yTr r c s lr lc ti) := hy
    subst hy
    refine Ok.to eR ?_
    exact Ok.ite (fun _ => Ok.some ⟨hu, hm⟩) (fun w => absurd (Int32.le_refl _) w)
  obtain ⟨b1', b2', b3'⟩ := b
  obtain ⟨hu2, hm2⟩ := hb
  dsimp only at hu2 hm2
  refine Ok.to eB ?_
  rw [nj_p1]
  have eBl : nI (yFrom r c s lr lc (yJst r k c g G H) ti - go) - 1 = nI (yFrom r c s lr lc (yJst r k c g G H) ti - go - 1) := by rw [li1, nj_sub (by omega)]
  rw [eBl]
  have hJ : yJst r k c g G H = ySt k (yIdle g r G c H) := rfl
  refine Ok.ite (fun w => ?_) (fun w => ?_)
  · rw [nj_lt (by omega) (by omega)] at w
    have hne : ¬ go + 1 = yTb r c s lr lc (yJst r k c g G H) ti := by omega
    refine Ok.some ⟨?_, fun e => absurd e hne, fun _ => rfl⟩
    have hO : yOneZ r k c g s lr lc G H B (be, ta, ti, go, U, S, Dn, Dk, D) = _ := if_neg hne
    rw [hO]
    exact ⟨⟨rfl, rfl, rfl, rfl, congrArg nI (show yFrom r c s lr lc (yJst r k c g G H) ti - go - 1 = yFrom r c s lr lc (yJst r k c g G H) ti - (go + 1) by omega), rfl, hu2, hm2, hv⟩, rfl, rfl, rfl⟩
  · rw [nj_lt (by omega) (by omega)] at w
    have he : go + 1 = yTb r c s lr lc (yJst r k c g G H) ti := by omega
    have hv0 : yRel (fun a b => a < r + s ∧ b < c + s ∧ yDn (yPop lr) (yPop lc) (yWd c s lc) ti a b) v (yD0 ti D) := by
      intro a b ha hb hq
      unfold yD0
      by_cases h0 : ti = 0
      · subst h0
        exact absurd hq.2.2 (Nat.not_lt_zero _)
      · rw [if_neg h0]
        exact hv a b ha hb hq
    unfold fX5_closeTile
    refine Ok.bind (P := yPost r k c g s lr lc G H B (be, ta, ti, go, U, S, Dn, Dk, D) zr zc zs otk ∘ fun (x : Int32 × Int32 × Int32 × Int32 × Int32 × (Nat → Int32) × Int32 × Int32 × Int32 × (Nat → Int32)) => (x.1, x.2.1, x.2.2.1, x.2.2.2.1, nI (yFrom r c s lr lc (yJst r k c g G H) ti - go - 1), be + 1, x.2.2.2.2.1, b2', x.2.2.2.2.2.1, x.2.2.2.2.2.2.1, x.2.2.2.2.2.2.2.1, x.2.2.2.2.2.2.2.2.1, x.2.2.2.2.2.2.2.2.2)) ?_ (fun x hx => Ok.some hx)
    refine Ok.bind (c_drain J Y ht hm2 hv0) (fun vv' hv' => ?_)
    refine Ok.to eR ?_
    refine Ok.to eC ?_
    rw [nj_add, nj_mul, nj_mul, nj_add]
    have hstep : (((if nI (ti % yWd c s lc * yPop lc + yPop lc) < nI (c + s) then some (nI (ti / yWd c s lc * yPop lr), nI (ti % yWd c s lc * yPop lc + yPop lc)) else some (nI (ti / yWd c s lc * yPop lr + yPop lr), 0)) : Option (Int32 × Int32))) = some (nI ((ti + 1) / yWd c s lc * yPop lr), nI ((ti + 1) % yWd c s lc * yPop lc)) := by
      have iff := yTl_iff (C := c + s) (w := yPop lc) (i := ti % yWd c s lc + 1) g2.1
      rw [Nat.succ_mul] at iff
      by_cases e : ti % yWd c s lc + 1 < yWd c s lc
      · have l := iff.mp e
        refine (if_pos (by rw [nj_lt (by omega) (by omega)]; exact l)).trans ?_
        rw [(succ_in e).1, (succ_in e).2, Nat.succ_mul]
      · have l : ¬ ti % yWd c s lc * yPop lc + yPop lc < c + s := fun z => e (iff.mpr z)
        refine (if_neg (fun z => l (by rw [nj_lt (by omega) (by omega)] at z; exact z))).trans ?_
        have so := succ_out (t := ti) g4.1 (by omega)
        rw [so.1, so.2, Nat.succ_mul, Nat.zero_mul]
        rfl
    refine Ok.to hstep ?_
    refine Ok.to (c_runs (by omega)) ?_
    have hO : yOneZ r k c g s lr lc G H B (be, ta, ti, go, U, S, Dn, Dk, D) = _ := if_pos he
    by_cases hl : yNt r c s lr lc ≤ ti + 1
    · have f0 := yFrom_0 (st := yJst r k c g G H) hl
      have e0 : yFrom r c s lr lc (yJst r k c g G H) ti - go - 1 = 0 := by omega
      rw [e0]
      refine Ok.ite (fun _ => ?_) (fun z => absurd (show yb (!(0 == 0)) = 0 by decide) z)
      refine Ok.to (c_open a8) ?_
      refine Ok.some ⟨?_, fun _ => rfl, fun e => absurd he e⟩
      rw [hO, if_pos hl]
      refine ⟨rfl, rfl, hu2, hm2, rfl, rfl, rfl, yRel_mono hv' (fun a b _ _ hq => ⟨hq.1, hq.2, ?_⟩)⟩
      have ca := (yTl_iff (C := r + s) (w := yPop lr) (i := a / yPop lr) g1.1).mpr (Nat.lt_of_le_of_lt (Nat.div_mul_le_self _ _) hq.1)
      have cb : b / yPop lc < yWd c s lc := (yTl_iff (C := c + s) (w := yPop lc) (i := b / yPop lc) g2.1).mpr (Nat.lt_of_le_of_lt (Nat.div_mul_le_self _ _) hq.2)
      show a / yPop lr * yWd c s lc + b / yPop lc < ti + 1
      have mm : (a / yPop lr + 1) * yWd c s lc ≤ yTl (r + s) (yPop lr) * yWd c s lc := Nat.mul_le_mul ca (Nat.le_refl _)
      rw [Nat.succ_mul] at mm
      have hn : yTl (r + s) (yPop lr) * yWd c s lc = yNt r c s lr lc := rfl
      omega
    · have ff2 := yFrom_step (st := yJst r k c g G H) (show ti + 1 < yNt r c s lr lc by omega)
      have tb2 := yTb_of (st := yJst r k c g G H) (ti := ti + 1) J Y (by omega) st.1 (by omega)
      have e1 : yFrom r c s lr lc (yJst r k c g G H) ti - go - 1 = yFrom r c s lr lc (yJst r k c g G H) (ti + 1) := by omega
      rw [e1]
      have nz : ¬ yFrom r c s lr lc (yJst r k c g G H) (ti + 1) = 0 := by omega
      rw [beq_false_of_ne nz]
      refine Ok.ite (fun z => absurd z (show ¬ yb (!false) = 0 by decide)) (fun _ => ?_)
      refine Ok.to (c_openTile a7) ?_
      refine Ok.some ⟨?_, fun _ => rfl, fun e => absurd he e⟩
      rw [hO, if_neg hl]
      exact ⟨⟨nj_p1 _, rfl, rfl, rfl, rfl, rfl, hu2, yT5_fill, hv'⟩, rfl, rfl, rfl⟩
