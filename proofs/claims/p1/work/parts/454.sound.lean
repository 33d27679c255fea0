/-! ===== isSound ===== -/
abbrev yS8 : Type := Int32 × Int32 × Int32 × Int32 × Int32 × Int32 × Int32 × Int32
theorem yL31 : ¬ (31 : Int32) < nI 31 := by decide
theorem c_bestSound {R C q : Nat} {K : Nat → Nat → Int32} {wk t3 t4 t5 t6 t7 t8 t9 : Int32} (hK : yFlag wk K) (hR : R ≤ 9) (hC : C ≤ 9) (hq : 1 ≤ q) (hq6 : q ≤ 6) (hgo : yGo R C q (yBest K R C q)) : Ok (fX6_isBestSound wk (nI (yBest K R C q).2.1) (nI (yBest K R C q).2.2) (nI (yBf R C (yPop (yBest K R C q).2.1) (yPop (yBest K R C q).2.2) q)) (nI R) (nI C) (nI q) t3 t4 t5 t6 t7 t8 t9) (fun o => o.1 = 1) := by
  have m := yBest_min (K := K) (R := R) (C := C) (st := q)
  unfold fX6_isBestSound
  generalize yBest K R C q = z at m hgo ⊢
  rcases hgo with ⟨z1, z2⟩ | ⟨z1, z2, z3, z4, z5⟩
  · have ee : fX2_isEmpty (nI z.2.1) (nI z.2.2) = some (yb true) := by
      rw [z1, z2]
      rfl
    refine Ok.to ee ?_
    refine Ok.ite (fun w => absurd w (show ¬ yb true = 0 by decide)) (fun _ => ?_)
    refine Ok.bind (P := fun (b : yS8 ⊕ yS8) => ∃ w, b = .inl w) (Ok.for (fun (i : Nat) (z : yS8) => z.1 = nI (i + 1)) 0 31 rfl (by decide) (by decide) (fun i z _ hi hI => ?_) (fun z hI => ?_)) (fun b hb => ?_)
    · obtain ⟨cnt, t3, t4, t5, t6, t7, t8, t9⟩ := z
      have hI : cnt = nI (i + 1) := hI
      subst hI
      dsimp only
      refine Ok.ite (fun z => absurd z (by rw [show (31 : Int32) = nI 31 from rfl, nj_lt (by decide) (by omega)]; omega)) (fun _ => ?_)
      refine Ok.bind (P := fun (b : yS8 ⊕ yS8) => ∃ w, b = .inl w) (Ok.for (fun (j : Nat) (z : yS8) => z.1 = nI (j + 1)) 0 31 rfl (by decide) (by decide) (fun j z _ hj hI => ?_) (fun z hI => ?_)) (fun b hb => ?_)
      · obtain ⟨cnt, t3, t4, t5, t6, t7, t8, t9⟩ := z
        have hI : cnt = nI (j + 1) := hI
        subst hI
        dsimp only
        refine Ok.ite (fun z => absurd z (by rw [show (31 : Int32) = nI 31 from rfl, nj_lt (by decide) (by omega)]; omega)) (fun _ => ?_)
        have e := c_beatsOn (t3 := t3) (t4 := t4) (t5 := t5) (t6 := t6) (t7 := t7) (t8 := t8) (t9 := t9) (a := i + 1) (b := j + 1) hK hR hC hq (by omega) (by omega)
        by_cases c : yCross K (i + 1) (j + 1) = true
        · rw [if_pos c] at e
          refine Ok.to e ?_
          exact Ok.ite (fun _ => Ok.some (nj_p1 _)) (fun w => absurd rfl w)
        · rw [if_neg c] at e
          refine Ok.to e ?_
          exact absurd (m.1 z1 (i + 1) (j + 1) (by omega)) c
      · obtain ⟨cnt, t3, t4, t5, t6, t7, t8, t9⟩ := z
        have hI : cnt = nI (31 + 1) := hI
        subst hI
        exact Ok.ite (fun _ => Ok.some ⟨_, rfl⟩) (fun z => absurd (show (31 : Int32) < nI (31 + 1) by decide) z)
      · obtain ⟨w, rfl⟩ := hb
        exact Ok.some (nj_p1 _)
    · obtain ⟨cnt, t3, t4, t5, t6, t7, t8, t9⟩ := z
      have hI : cnt = nI (31 + 1) := hI
      subst hI
      exact Ok.ite (fun _ => Ok.some ⟨_, rfl⟩) (fun z => absurd (show (31 : Int32) < nI (31 + 1) by decide) z)
    · obtain ⟨w, rfl⟩ := hb
      exact Ok.some rfl
  · have q1 := yPops z1 z2
    have q2 := yPops z3 z4
    have b2 := yBeats_le (st := q) hR hC q1.1 q1.2 q2.1 q2.2 hq6
    have f2 := yBf_eq (R := R) (C := C) q1.1 q2.1 hq
    have ee : fX2_isEmpty (nI z.2.1) (nI z.2.2) = some (yb false) := by
      refine (c_empty z2 z4).trans ?_
      rw [beq_false_of_ne (show z.2.1 ≠ 0 by omega), beq_false_of_ne (show z.2.2 ≠ 0 by omega)]
      rfl
    refine Ok.to ee ?_
    refine Ok.ite (fun _ => ?_) (fun w => absurd (show yb false = 0 from rfl) w)
    refine Ok.to (c_crossKnown hK z2 z4) ?_
    rw [(m.2 (by omega)).1]
    refine Ok.ite (fun _ => ?_) (fun w => absurd (show yb false = 0 from rfl) w)
    refine Ok.bind (P := fun (b : yS8 ⊕ yS8) => ∃ w, b = .inl w) (Ok.for (fun (i : Nat) (z : yS8) => z.1 = nI (i + 1)) 0 31 rfl (by decide) (by decide) (fun i z _ hi hI => ?_) (fun z hI => ?_)) (fun b hb => ?_)
    · obtain ⟨cnt, t3, t4, t5, t6, t7, t8, t9⟩ := z
      have hI : cnt = nI (i + 1) := hI
      subst hI
      dsimp only
      refine Ok.ite (fun z => absurd z (by rw [show (31 : Int32) = nI 31 from rfl, nj_lt (by decide) (by omega)]; omega)) (fun _ => ?_)
      refine Ok.bind (P := fun (b : yS8 ⊕ yS8) => ∃ w, b = .inl w) (Ok.for (fun (j : Nat) (z : yS8) => z.1 = nI (j + 1)) 0 31 rfl (by decide) (by decide) (fun j z _ hj hI => ?_) (fun z hI => ?_)) (fun b hb => ?_)
      · obtain ⟨cnt, t3, t4, t5, t6, t7, t8, t9⟩ := z
        have hI : cnt = nI (j + 1) := hI
        subst hI
        dsimp only
        refine Ok.ite (fun z => absurd z (by rw [show (31 : Int32) = nI 31 from rfl, nj_lt (by decide) (by omega)]; omega)) (fun _ => ?_)
        have e := c_beatsOn (t3 := t3) (t4 := t4) (t5 := t5) (t6 := t6) (t7 := t7) (t8 := t8) (t9 := t9) (a := i + 1) (b := j + 1) hK hR hC hq (by omega) (by omega)
        by_cases c : yCross K (i + 1) (j + 1) = true
        · rw [if_pos c] at e
          refine Ok.to e ?_
          exact Ok.ite (fun _ => Ok.some (nj_p1 _)) (fun w => absurd rfl w)
        · rw [if_neg c] at e
          refine Ok.to e ?_
          have c2 : yCross K (i + 1) (j + 1) = false := by
            cases hx : yCross K (i + 1) (j + 1)
            · rfl
            · exact absurd hx c
          have p1 := yPops (show 1 ≤ i + 1 by omega) (by omega)
          have p2 := yPops (show 1 ≤ j + 1 by omega) (by omega)
          have b1 := yBeats_le (st := q) hR hC p1.1 p1.2 p2.1 p2.2 hq6
          have f1 := yBf_eq (R := R) (C := C) p1.1 p2.1 hq
          have le := (m.2 (by omega)).2 (i + 1) (j + 1) (by omega) c2
          refine Ok.ite (fun w => absurd w (by dsimp only; rw [nj_m1 (by omega)]; exact id)) (fun _ => ?_)
          refine Ok.to ee ?_
          refine Ok.ite (fun _ => ?_) (fun w => absurd (show yb false = 0 from rfl) w)
          refine Ok.ite (fun _ => Ok.some (nj_p1 _)) (fun w => absurd ?_ w)
          dsimp only
          rw [nj_le (by omega) (by omega)]
          omega
      · obtain ⟨cnt, t3, t4, t5, t6, t7, t8, t9⟩ := z
        have hI : cnt = nI (31 + 1) := hI
        subst hI
        exact Ok.ite (fun _ => Ok.some ⟨_, rfl⟩) (fun z => absurd (show (31 : Int32) < nI (31 + 1) by decide) z)
      · obtain ⟨w, rfl⟩ := hb
        exact Ok.some (nj_p1 _)
    · obtain ⟨cnt, t3, t4, t5, t6, t7, t8, t9⟩ := z
      have hI : cnt = nI (31 + 1) := hI
      subst hI
      exact Ok.ite (fun _ => Ok.some ⟨_, rfl⟩) (fun z => absurd (show (31 : Int32) < nI (31 + 1) by decide) z)
    · obtain ⟨w, rfl⟩ := hb
      exact Ok.some rfl
theorem c_sumOfUses {u : Nat → Int32} {U : Nat → Nat → Int32} (h : yT5 u U) : fX0_sumOfUses u = some (ySum 5 (fun i => ySum 5 (fun j => U i j))) := by
  unfold fX0_sumOfUses
  refine bto (wl_eq (fun i => (ySum i (fun i => ySum 5 (fun j => U i j)), nI i)) 0 5 (b := (ySum 5 (fun i => ySum 5 (fun j => U i j)), nI 5)) rfl (by decide) (by decide) (fun i _ hi => ?_) ?_) rfl
  · refine (if_neg (fun z => by rw [show (5 : Int32) = nI 5 from rfl, nj_le (by decide) (by omega)] at z; omega)).trans ?_
    dsimp only
    obtain ⟨x, hx⟩ : ∃ x, x = ySum i (fun i => ySum 5 (fun j => U i j)) := ⟨_, rfl⟩
    rw [← hx]
    refine bto (wl_eq (fun j => (x + ySum j (fun j => U i j), nI j)) 0 5 (b := (x + ySum 5 (fun j => U i j), nI 5)) ?_ (by decide) (by decide) (fun j _ hj => ?_) ?_) ?_
    · exact congrArg (fun y => (y, nI 0)) (Int32.add_zero x).symm
    · refine (if_neg (fun z => by rw [show (5 : Int32) = nI 5 from rfl, nj_le (by decide) (by omega)] at z; omega)).trans ?_
      refine bto (e_get (by omega) (by omega)) ?_
      rw [h i j hi hj]
      dsimp only
      rw [Int32.add_assoc, nj_p1]
      rfl
    · exact if_pos (Int32.le_refl _)
    · dsimp only
      rw [nj_p1, hx]
      rfl
  · exact if_pos (Int32.le_refl _)
theorem c_take {st go i j : Nat} (h1 : st ≤ 6) (h2 : go < 1000) (h3 : i < 10) (h4 : j < 10) : xn_max 0 (xn_min (nI st) ((nI go - nI i) - nI j)) = nI (min st (go - i - j)) := by
  have t1 := yi_nI (n := st) (by omega)
  have t2 := yi_nI (n := go) (by omega)
  have t3 := yi_nI (n := i) (by omega)
  have t4 := yi_nI (n := j) (by omega)
  have v1 : (nI go - nI i).toInt = (go : Int) - i := by rw [yi_sub (by omega) (by omega), t2, t3]
  have v2 : (nI go - nI i - nI j).toInt = (go : Int) - i - j := by rw [yi_sub (by omega) (by omega), v1, t4]
  have v3 := yi_nI (n := min st (go - i - j)) (by omega)
  have v0 : Int32.toInt 0 = 0 := by decide
  apply Int32.toInt_inj.mp
  rw [v3]
  unfold xn_max xn_min
  by_cases c1 : nI go - nI i - nI j < nI st
  · rw [if_pos c1]
    rw [yi_lt, v2, t1] at c1
    by_cases c2 : (0 : Int32) < nI go - nI i - nI j
    · rw [if_pos c2, v2]
      rw [yi_lt, v0, v2] at c2
      omega
    · rw [if_neg c2, v0]
      rw [yi_lt, v0, v2] at c2
      omega
  · rw [if_neg c1]
    rw [yi_lt, v2, t1] at c1
    by_cases c2 : (0 : Int32) < nI st
    · rw [if_pos c2, t1]
      omega
    · rw [if_neg c2, v0]
      rw [yi_lt, v0, t1] at c2
      omega
theorem c_takenInTile {r k c g s lr lc ti go : Nat} {obl : Int32} {G H : Nat → Nat → Int32} (J : yJob r k c g s) (Y : yLay lr lc) (ht : ti < yNt r c s lr lc) (hgo : go < 1000) (hr : fX5_runs obl = some (yb true)) : fX5_takenInTile (nI (ti / yWd c s lc * yPop lr)) (nI (ti % yWd c s lc * yPop lc)) (nI go) obl (nI (r + s)) (nI (c + s)) (nI (yJst r k c g G H)) (nI (yPop lr)) (nI (yPop lc)) = some (nI (yIT (yTr r c s lr lc ti) (yTc c s lc ti) (yJst r k c g G H) go)) := by
  obtain ⟨g1, g2, g3, g4, g5, g6⟩ := yGeo J Y
  have uu := yTr_of J Y ht
  have vv := yTc_of ti J Y
  obtain ⟨⟨a1, a2⟩, ⟨a3, a4⟩, ⟨a5, a6⟩, a7, a8⟩ := id J
  have st := yJst_of G H J
  have eR : fX5_tileRows (nI (ti / yWd c s lc * yPop lr)) (nI (r + s)) (nI (yPop lr)) = some (nI (yTr r c s lr lc ti)) := c_tileRows (by omega) (by omega) (by omega)
  have eC : fX5_tileColumns (nI (ti % yWd c s lc * yPop lc)) (nI (c + s)) (nI (yPop lc)) = some (nI (yTc c s lc ti)) := c_tileColumns (by omega) (by omega) (by omega)
  unfold fX5_takenInTile yIT
  refine bto hr ?_
  refine (if_neg (show ¬ yb true = 0 by decide)).trans ?_
  generalize yJst r k c g G H = q at st ⊢
  generalize yTr r c s lr lc ti = mm at *
  generalize yTc c s lc ti = nn at *
  refine bto (wl_eq (fun i => (nI (ySm i (fun i => ySm nn (fun j => min q (go - i - j)))), nI i)) 0 mm (b := (nI (ySm mm (fun i => ySm nn (fun j => min q (go - i - j)))), nI mm)) rfl (Nat.zero_le _) (by omega) (fun i _ hi => ?_) ?_) rfl
  · refine bto eR ?_
    refine (if_neg (fun z => by rw [nj_le (by omega) (by omega)] at z; omega)).trans ?_
    dsimp only
    obtain ⟨x, hx⟩ : ∃ x, x = ySm i (fun i => ySm nn (fun j => min q (go - i - j))) := ⟨_, rfl⟩
    rw [← hx]
    refine bto (wl_eq (fun j => (nI (x + ySm j (fun j => min q (go - i - j))), nI j)) 0 nn (b := (nI (x + ySm nn (fun j => min q (go - i - j))), nI nn)) rfl (Nat.zero_le _) (by omega) (fun j _ hj => ?_) ?_) ?_
    · refine bto eC ?_
      refine (if_neg (fun z => by rw [nj_le (by omega) (by omega)] at z; omega)).trans ?_
      dsimp only
      rw [c_take (by omega) hgo (by omega) (by omega), nj_add, nj_p1, Nat.add_assoc]
      rfl
    · refine bto eC ?_
      exact if_pos (Int32.le_refl _)
    · dsimp only
      rw [nj_p1, hx]
      rfl
  · refine bto eR ?_
    exact if_pos (Int32.le_refl _)
theorem c_unfinished {r k c g s lr lc ti go : Nat} {obl : Int32} {G H : Nat → Nat → Int32} (J : yJob r k c g s) (Y : yLay lr lc) (ht : ti < yNt r c s lr lc) (hgo : go < yTb r c s lr lc (yJst r k c g G H) ti) (hr : fX5_runs obl = some (yb true)) : fX5_isUnfinished (nI ti) (nI (ti / yWd c s lc * yPop lr)) (nI (ti % yWd c s lc * yPop lc)) (nI go) obl (nI (r + s)) (nI (c + s)) (nI (yJst r k c g G H)) (nI (yPop lr)) (nI (yPop lc)) (nI (yTl (r + s) (yPop lr))) (nI (yTl (c + s) (yPop lc))) = some 1 := by
  obtain ⟨g1, g2, g3, g4, g5, g6⟩ := yGeo J Y
  have uu := yTr_of J Y ht
  have vv := yTc_of ti J Y
  obtain ⟨⟨a1, a2⟩, ⟨a3, a4⟩, ⟨a5, a6⟩, a7, a8⟩ := id J
  have st := yJst_of G H J
  have tb := yTb_of (st := yJst r k c g G H) J Y ht st.1 (by omega)
  have eR : fX5_tileRows (nI (ti / yWd c s lc * yPop lr)) (nI (r + s)) (nI (yPop lr)) = some (nI (yTr r c s lr lc ti)) := c_tileRows (by omega) (by omega) (by omega)
  have eC : fX5_tileColumns (nI (ti % yWd c s lc * yPop lc)) (nI (c + s)) (nI (yPop lc)) = some (nI (yTc c s lc ti)) := c_tileColumns (by omega) (by omega) (by omega)
  have eB : fX5_beatsOfTile (nI (ti / yWd c s lc * yPop lr)) (nI (ti % yWd c s lc * yPop lc)) (nI (r + s)) (nI (c + s)) (nI (yJst r k c g G H)) (nI (yPop lr)) (nI (yPop lc)) = some (nI (yTb r c s lr lc (yJst r k c g G H) ti)) := by
    unfold fX5_beatsOfTile
    refine bto eR ?_
    refine bto eC ?_
    rw [nj_add, nj_add, li1, nj_sub (by omega)]
    rfl
  unfold fX5_isUnfinished
  refine bto hr ?_
  refine (if_neg (show ¬ yb true = 0 by decide)).trans ?_
  refine bto eB ?_
  refine (if_neg (fun z => by rw [nj_le (by omega) (by omega)] at z; omega)).trans ?_
  have hn : yTl (r + s) (yPop lr) * yTl (c + s) (yPop lc) = yNt r c s lr lc := rfl
  refine bto (show fX2_countTiles (nI (yTl (r + s) (yPop lr))) (nI (yTl (c + s) (yPop lc))) = some (nI (yNt r c s lr lc)) by rw [← hn, ← nj_mul]; rfl) ?_
  exact if_neg (fun z => by rw [nj_le (by omega) (by omega)] at z; omega)
theorem c_knownBroken {wb wk : Int32} {B K : Nat → Nat → Int32} (hB : yFlag wb B) (hK : yFlag wk K) (hs : ySub B K) : fX0_areKnownBroken wb wk = some 1 := by
  have f := yFlag_num (yFlag_df hK hB)
  have e : yBits 25 (fun q => !decide (yDf K B (q / 5) (q % 5) = 0)) = yBits 25 (fun _ => false) := yBits_ext (fun q hq => by
    have z : yDf K B (q / 5) (q % 5) = 0 := by
      unfold yDf
      by_cases c : B (q / 5) (q % 5) = 0
      · rw [if_pos c]
        exact hs _ _ (by omega) (by omega) c
      · exact if_neg c
    rw [decide_eq_true z]
    rfl)
  rw [e] at f
  unfold fX0_areKnownBroken
  exact if_pos (f.trans (show nI (yBits 25 (fun _ => false)) = 0 by decide))
def yFt (n : Nat → Int32) (t : Nat → Nat → Int32) : Prop := fX6_doUsesAddUp (t 2) (n 12) (n 13) (n 14) (n 15) (n 18) (n 24) (n 25) (n 26) (n 29) (n 30) = some 1 ∧ fX5_isUnfinished (n 11) (n 12) (n 13) (n 14) (n 15) (n 24) (n 25) (n 26) (n 29) (n 30) (n 31) (n 32) = some 1
theorem yFt_i {W : Nat} {n : Nat → Int32} {t : Nat → Nat → Int32} {m : Nat → Int32} {L : Int64} {k : Nat → Nat} {G : Nat → Nat → Nat → Int32} (h : yRi W n t m L k G) : yFt n t := by
  obtain ⟨w1, w2, w3, w4, w5, w6, w7, w8, w9, b, T, x1, x2, x3, x4, x5, x6⟩ := h
  refine ⟨?_, ?_⟩
  · unfold fX6_doUsesAddUp
    refine bto (c_sumOfUses w3) ?_
    rw [w1]
    refine bto (show fX5_takenInTile (n 12) (n 13) (n 14) 0 (n 24) (n 25) (n 26) (n 29) (n 30) = some 0 from rfl) ?_
    exact if_pos (by rw [yUse_32 x2, x6, Int32.add_zero])
  · rw [w1]
    rfl
theorem yFt_r {W : Nat} {n : Nat → Int32} {t : Nat → Nat → Int32} {m : Nat → Int32} {L : Int64} {k : Nat → Nat} {G : Nat → Nat → Nat → Int32} (h : yRr W n t m L k G) : yFt n t := by
  obtain ⟨r2, k2, c2, g2, s2, lr, lc, ti, go, hr', e19, f5, f6, e10, ⟨e24, e25, e26, e27, e28, e29, e30, e31, e32⟩, hC', z7, z8, z4, z5, b, T, x1, x2, x3, x4, x5, x6, x7⟩ := h
  obtain ⟨J2, Y, -, -, -, ht, hg, -⟩ := hr'
  obtain ⟨d1, d2, d3, d4, d5, d6, d7, d8, d9⟩ := hC'
  dsimp only at d1 d2 d3 d4 d5 d6 d7
  have st := yJst_of (G 8) (G 9) J2
  have k6 := J2.2.1.2
  have ff := yFrom_step (st := yJst r2 k2 c2 g2 (G 8) (G 9)) ht
  have fl := yFrom_le (ti := ti) (st := yJst r2 k2 c2 g2 (G 8) (G 9)) J2 Y st.1 (by omega)
  have tb := yTb_of (st := yJst r2 k2 c2 g2 (G 8) (G 9)) J2 Y ht st.1 (by omega)
  have runs : fX5_runs (n 15) = some (yb true) := by
    rw [d5]
    refine (c_runs (by omega)).trans ?_
    rw [beq_false_of_ne (show yFrom r2 c2 s2 lr lc (yJst r2 k2 c2 g2 (G 8) (G 9)) ti - go ≠ 0 by omega)]
    rfl
  refine ⟨?_, ?_⟩
  · unfold fX6_doUsesAddUp
    refine bto (c_sumOfUses d7) ?_
    rw [d2, d3, d4, e24, e25, e26, e29, e30]
    refine bto (c_takenInTile J2 Y ht (by omega) runs) ?_
    refine if_pos ?_
    rw [yUse_32 x2, x7, nj_add]
    exact congrArg nI (by omega)
  · rw [d1, d2, d3, d4, e24, e25, e26, e29, e30, e31, e32]
    exact c_unfinished J2 Y ht hg runs
theorem c_allSound {R C q : Nat} {n : Nat → Int32} {t : Nat → Nat → Int32} {B K : Nat → Nat → Int32} {t3 t4 t5 t6 t7 t8 t9 : Int32} (hB : yFlag (n 5) B) (hK : yFlag (n 6) K) (hs : ySub B K) (hR : R ≤ 9) (hC : C ≤ 9) (hq : 1 ≤ q) (hq6 : q ≤ 6) (hgo : yGo R C q (yBest K R C q)) (hf : yFt n t) : Ok (fX6_isAllSound (n 5) (n 6) (t 2) (n 11) (n 12) (n 13) (n 14) (n 15) (n 18) (n 24) (n 25) (n 26) (n 29) (n 30) (n 31) (n 32) (nI (yBest K R C q).2.1) (nI (yBest K R C q).2.2) (nI (yBf R C (yPop (yBest K R C q).2.1) (yPop (yBest K R C q).2.2) q)) (nI R) (nI C) (nI q) t3 t4 t5 t6 t7 t8 t9) (fun o => o.1 = 1) := by
  unfold fX6_isAllSound
  refine Ok.bind (c_bestSound hK hR hC hq hq6 hgo) (fun x hx => ?_)
  refine Ok.ite (fun w => absurd w (by rw [hx]; decide)) (fun _ => ?_)
  refine Ok.to (c_knownBroken hB hK hs) ?_
  refine Ok.ite (fun w => absurd w (by decide)) (fun _ => ?_)
  refine Ok.to hf.1 ?_
  refine Ok.ite (fun w => absurd w (by decide)) (fun _ => ?_)
  refine Ok.to hf.2 ?_
  refine Ok.ite (fun w => absurd w (by decide)) (fun _ => ?_)
  exact Ok.some rfl
theorem bss2 {α β : Type} {o : Option α} {F : α → Option β} {v : β} (h : o.bind F = some v) : ∃ r, o = some r ∧ F r = some v := by
  cases o with
  | none => cases h
  | some r => exact ⟨r, rfl, h⟩
theorem c_fb2 {r k c g s : Nat} {f h : Nat → Int32} {G H : Nat → Nat → Int32} {wk x3 x4 x5 x6 x7 x8 x9 : Int32} {o : Int32 × Int32 × Int32 × Int32 × Int32 × Int32 × Int32 × Int32 × Int32 × Int32 × Int32 × Int32 × Int32 × Int32 × Int32 × Int32 × Int32 × Int32 × Int32 × Int32} (J : yJob r k c g s) (hf : yTq r k f G) (hh : yTq k c h H) (e : fX6_findBest (nI r) (nI k) (nI c) (nI g) (nI s) f h wk x3 x4 x5 x6 x7 x8 x9 = some o) : o.2.2.2.2.2.2.2.2.2.2.1 = nI (r + s) ∧ o.2.2.2.2.2.2.2.2.2.2.2.1 = nI (c + s) ∧ o.2.2.2.2.2.2.2.2.2.2.2.2.1 = nI (yJst r k c g G H) := by
  have hm := c_measure J hf hh
  unfold fX6_findBest at e
  obtain ⟨x1, -, e⟩ := bss2 e
  obtain ⟨x2, -, e⟩ := bss2 e
  obtain ⟨x3, h3, e⟩ := bss2 e
  obtain ⟨x4, -, e⟩ := bss2 e
  rw [hm] at h3
  cases h3
  cases e
  exact ⟨rfl, rfl, rfl⟩
theorem aX_isSound {n : Nat → Int32} {t : Nat → Nat → Int32} {r kk c g s : Nat} {G H B K : Nat → Nat → Int32} (J : yJob r kk c g s) (hn : n 0 = nI r ∧ n 1 = nI kk ∧ n 2 = nI c ∧ n 3 = nI g ∧ n 4 = nI s) (hf : yTq r kk (t 0) G) (hh : yTq kk c (t 1) H) (hB : yFlag (n 5) B) (hK : yFlag (n 6) K) (hs : ySub B K) (hu : yFt n t) : ∃ x, gX6_isSound n t = some x ∧ x.1 = 1 := by
  obtain ⟨h0, h1, h2, h3, h4⟩ := hn
  obtain ⟨⟨a1, a2⟩, ⟨a3, a4⟩, ⟨a5, a6⟩, a7, a8⟩ := id J
  have st := yJst_of G H J
  unfold gX6_isSound fX6_isSound
  simp only [h0, h1, h2, h3, h4]
  obtain ⟨o6, e6, p0, p1, p2, p3, p4⟩ := c_findBest (x3 := n 47) (x4 := n 48) (x5 := n 49) (x6 := n 50) (x7 := n 51) (x8 := n 52) (x9 := n 53) J hf hh hK
  obtain ⟨o1, o2, o3, o4, o5, o7, o8, o9, o10, o11, p11, p12, p13, p14, p15, p16, p17, p18, p19, p20⟩ := o6
  dsimp only at p1 p2 p3 p4
  obtain ⟨q1, q2, q3⟩ := c_fb2 J hf hh e6
  dsimp only at q1 q2 q3
  unfold yLy at p4
  cases p4
  subst p1 p2 p3 q1 q2 q3
  obtain ⟨o8, e8, h8⟩ := c_allSound (t3 := p14) (t4 := p15) (t5 := p16) (t6 := p17) (t7 := p18) (t8 := p19) (t9 := p20) hB hK hs (show r + s ≤ 9 by omega) (show c + s ≤ 9 by omega) st.1 (by omega) p0 hu
  exact ⟨_, bto (bto e6 (bto e8 (if_pos (Or.inr h8)))) rfl, h8⟩
theorem yW_i {W : Nat} {n : Nat → Int32} {t : Nat → Nat → Int32} {r kk c g s : Nat} {m : Nat → Int32} {L : Int64} {k : Nat → Nat} {G : Nat → Nat → Nat → Int32} (hW : W ≤ 80000000) (hs : ySub (G 2) (G 3)) (h : yRi W n t m L k G) : yWh (G 3) (G 2) (G 4) (r + s) (c + s) (yJst r kk c g (G 0) (G 1)) (yJb r kk c g s (G 0) (G 1) (G 3)) L true = true := by
  obtain ⟨-, -, -, -, -, -, -, -, -, b, T, x1, x2, x3, x4, x5, x6⟩ := h
  exact yWh_t hs x2 (by omega) x3 rfl
theorem yW_r {W : Nat} {n : Nat → Int32} {t : Nat → Nat → Int32} {r kk c g s : Nat} {m : Nat → Int32} {L : Int64} {k : Nat → Nat} {G : Nat → Nat → Nat → Int32} (hW : W ≤ 80000000) (hs : ySub (G 2) (G 3)) (h : yRr W n t m L k G) : yWh (G 3) (G 2) (G 4) (r + s) (c + s) (yJst r kk c g (G 0) (G 1)) (yJb r kk c g s (G 0) (G 1) (G 3)) L true = true := by
  obtain ⟨r2, k2, c2, g2, s2, lr, lc, ti, go, hr', -, -, -, -, -, -, -, -, -, -, b, T, x1, x2, x3, x4, x5, x6, x7⟩ := h
  exact yWh_t hs x2 (by omega) x3 rfl
theorem eM_isSound_i {W : Nat} {n : Nat → Int32} {t : Nat → Nat → Int32} {r kk c g s : Nat} {m : Nat → Int32} {L : Int64} {k : Nat → Nat} {G : Nat → Nat → Nat → Int32} (sh : Nat) (hs : ¬ 2 ≤ sh) (h : yMw sh m k G r kk c g s) (hW : W ≤ 80000000) (hw : yRest W n t sh m L k G) : gX9w_isSound sh m L k G = some (yAns (1, 0) sh m L k G) := by
  obtain ⟨J, ⟨h8, h9, h10, h11, h12, q0, q1, q2, q3⟩, b1, b2, q4, q5, hr⟩ := id h
  have e := e_isSound_i (G := G 0) (H := G 1) (B := G 2) (K := G 3) (U := G 4) (ta := L) J
  rw [yW_i hW hw.2.2.1 (hw.2.2.2.2.2 hs)] at e
  match sh with
  | 0 =>
    unfold gX9w_isSound
    dsimp only
    simp only [h8, h9, h10, h11, h12, q0, q1, q2, q3]
    exact bto e rfl
  | 1 =>
    unfold gX9w_isSound
    dsimp only
    simp only [h8, h9, h10, h11, h12, q0, q1, q2, q3]
    exact bto e rfl
  | z + 2 => exact absurd (by omega) hs
theorem eM_isSound_r {W : Nat} {n : Nat → Int32} {t : Nat → Nat → Int32} {r kk c g s : Nat} {m : Nat → Int32} {L : Int64} {k : Nat → Nat} {G : Nat → Nat → Nat → Int32} (sh : Nat) (hs : 2 ≤ sh) (h : yMw sh m k G r kk c g s) (hW : W ≤ 80000000) (hw : yRest W n t sh m L k G) : gX9w_isSound sh m L k G = some (yAns (1, 0) sh m L k G) := by
  obtain ⟨J, ⟨h8, h9, h10, h11, h12, q0, q1, q2, q3⟩, b1, b2, q4, q5, -⟩ := id h
  have hw5 := yW_r (r := r) (kk := kk) (c := c) (g := g) (s := s) hW hw.2.2.1 (hw.2.2.2.2.1 hs)
  obtain ⟨r2, k2, c2, g2, s2, lr, lc, ti, go, ⟨J2, Y, ⟨h13, h14, h15, h16, h17⟩, ⟨h3, h4, h5, h6⟩, ⟨q8, q9, q10, q11⟩, ht, hg, hD⟩, _⟩ := hw.2.2.2.2.1 hs
  have e := e_isSound_r (G := G 0) (H := G 1) (B := G 2) (K := G 3) (U := G 4) (ta := L) J J2 Y ht hg
  have ff := yFrom_step (st := yJst r2 k2 c2 g2 (G 8) (G 9)) ht
  rw [decide_eq_true (show 0 < yFrom r2 c2 s2 lr lc (yJst r2 k2 c2 g2 (G 8) (G 9)) ti - go by omega), hw5] at e
  match sh with
  | 0 => exact absurd hs (by decide)
  | 1 => exact absurd hs (by decide)
  | z + 2 =>
    unfold gX9w_isSound yAns
    rw [show min (z + 2) 2 = 2 by omega]
    dsimp only
    simp only [h8, h9, h10, h11, h12, q0, q1, q2, q3, h13, h14, h15, h16, h17, h3, h4, h5, h6, q8, q9, q10, q11]
    exact bto e rfl
theorem yFt_of {W : Nat} {n : Nat → Int32} {t : Nat → Nat → Int32} {sh : Nat} {m : Nat → Int32} {L : Int64} {k : Nat → Nat} {G : Nat → Nat → Nat → Int32} (hw : yRest W n t sh m L k G) : yFt n t := by
  by_cases hs : 2 ≤ sh
  · exact yFt_r (hw.2.2.2.2.1 hs)
  · exact yFt_i (hw.2.2.2.2.2 hs)
theorem sa_isSound {W : Nat} {n : Nat → Int32} {t : Nat → Nat → Int32} {sh : Nat} {m : Nat → Int32} {L : Int64} {k : Nat → Nat} {G : Nat → Nat → Nat → Int32} (h : yR4 W n t sh m L k G) (hW : W ≤ 80000000) : ∃ x y, gX6_isSound n t = some x ∧ gX9w_isSound sh m L k G = some y ∧ yR4 W x.2.1 x.2.2 y.2.1 y.2.2.1 y.2.2.2.1 y.2.2.2.2.1 y.2.2.2.2.2 ∧ x.1 = y.1 := by
  obtain ⟨h2, hw⟩ := id h
  obtain ⟨hC, r, kk, c, g, s, hM, hn, h0, h1⟩ := id h2
  obtain ⟨⟨a1, a2⟩, ⟨a3, a4⟩, ⟨a5, a6⟩, a7, a8⟩ := id hM.1
  obtain ⟨x, y, ex, ey, hR⟩ := s4_isSound h
  obtain ⟨x', ex', hx⟩ := aX_isSound hM.1 hn (h0.q (by omega) (by omega)) (h1.q (by omega) (by omega)) hw.1 hw.2.1 hw.2.2.1 (yFt_of hw)
  have ey' : gX9w_isSound sh m L k G = some (yAns (1, 0) sh m L k G) := by
    by_cases hs : 2 ≤ sh
    · exact eM_isSound_r sh hs hM hW hw
    · exact eM_isSound_i sh hs hM hW hw
  rw [ex] at ex'
  cases ex'
  rw [ey] at ey'
  cases ey'
  exact ⟨x, _, ex, ey, hR, hx⟩
