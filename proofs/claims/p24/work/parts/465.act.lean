/-! ===== an act, and what is asked ahead ===== -/
theorem l_pos (x : Int32) : 0 ≤ (x &&& 2147483647).toInt := by
  have h1 : (x &&& 2147483647).toBitVec.msb = false := by
    rw [Int32.toBitVec_and, BitVec.msb_and, show (2147483647 : Int32).toBitVec.msb = false by decide, Bool.and_false]
  rw [BitVec.msb_eq_toInt, decide_eq_false_iff_not] at h1
  exact Int.not_lt.mp h1
theorem l_below (x : Int32) {k : Nat} (h1 : 1 ≤ k) (h2 : k < 2147483648) : ∃ m, m < k ∧ fL_below x (nI k) = some (nI m) := by
  have hp := l_pos x
  have hl := Int32.toInt_lt (x &&& 2147483647)
  have e := nj_to hp
  refine ⟨(x &&& 2147483647).toInt.toNat % k, Nat.mod_lt _ h1, ?_⟩
  unfold fL_below
  refine (if_pos (by rw [li0, nj_eq h2 (by decide)]; omega)).trans ?_
  have l : (x &&& 2147483647).toInt.toNat < 2147483648 := by omega
  generalize (x &&& 2147483647).toInt.toNat = y at e l ⊢
  rw [e, mod_nI l h2]
theorem l_m9 : ∀ m, m < 19 → yIn (nI m - 9) (-9) 9 = true := by decide +kernel
def yC4 (W : Nat) (n : Nat → Int32) (t : Nat → Nat → Int32) : Prop := ∃ r kk c g s G H B K Rn Rk U R, BG B ∧ yS4 W n t r kk c g s G H B K Rn Rk U R
theorem yPk {W : Nat} {n : Nat → Int32} {t : Nat → Nat → Int32} {r kk c g s Rn Rk r2 k2 c2 g2 s2 : Nat} {G H B K U R G2 H2 B2 K2 : Nat → Nat → Int32} {v : Int32 × Int32 × Int32 × Int32 × Int32 × (Nat → Int32) × (Nat → Int32) × Int32 × Int32} (h : yS4 W n t r kk c g s G H B K Rn Rk U R) (J : yJob r2 k2 c2 g2 s2) (jg : s2 = 1 → g2 = 0) (e0 : v.1 = nI r2) (e1 : v.2.1 = nI k2) (e2 : v.2.2.1 = nI c2) (e3 : v.2.2.2.1 = nI g2) (e4 : v.2.2.2.2.1 = nI s2) (f0 : yTG v.2.2.2.2.2.1 G2) (f1 : yTG v.2.2.2.2.2.2.1 H2) (b1 : yFlag v.2.2.2.2.2.2.2.1 B2) (b2 : yFlag v.2.2.2.2.2.2.2.2 K2) (b3 : BG B2) (b4 : BG K2) (b5 : ySub B2 K2) : yC4 W (va_up (va_up (va_up (va_up (va_up (va_up (va_up n 0 v.1) 1 v.2.1) 2 v.2.2.1) 3 v.2.2.2.1) 4 v.2.2.2.2.1) 5 v.2.2.2.2.2.2.2.1) 6 v.2.2.2.2.2.2.2.2) (va_up (va_up t 0 v.2.2.2.2.2.1) 1 v.2.2.2.2.2.2.1) := by
  obtain ⟨_, _, _, p4, p5, p6, p7⟩ := h
  exact ⟨r2, k2, c2, g2, s2, G2, H2, B2, K2, Rn, Rk, U, R, b3, ⟨J, jg, e0, e1, e2, e3, e4⟩, ⟨f0, f1⟩, ⟨b1, b2, b4, b5⟩, p4, p5, p6, p7⟩
theorem yC4_mono {W V : Nat} {n : Nat → Int32} {t : Nat → Nat → Int32} (h : yC4 W n t) (hW : W ≤ V) : yC4 V n t := by
  obtain ⟨r, kk, c, g, s, G, H, B, K, Rn, Rk, U, R, hB, h⟩ := h
  exact ⟨r, kk, c, g, s, G, H, B, K, Rn, Rk, U, R, hB, yS4_mono h hW⟩
theorem l_bo {x : Int32} : Ok (if x ≤ 0 then some (0 : Int32) else some 1) Bo := Ok.ite (fun _ => Ok.some (Or.inl rfl)) (fun _ => Ok.some (Or.inr rfl))
theorem g_act {W : Nat} {n : Nat → Int32} {t : Nat → Nat → Int32} (h : yC4 W n t) (x wh : Int32) : Ok (gL_act n t x wh) (fun y => yC4 W y.1 y.2) := by
  obtain ⟨r, kk, c, g, s, G, H, B, K, Rn, Rk, U, R, hB, h⟩ := h
  obtain ⟨⟨J, jg, h0, h1, h2, h3, h4⟩, ⟨t0, t1⟩, ⟨d1, d2, d3, d4⟩, _⟩ := id h
  obtain ⟨⟨a1, a2⟩, ⟨a3, a4⟩, ⟨a5, a6⟩, a7, a8⟩ := id J
  unfold gL_act
  rw [h0, h1, h2, h3, h4]
  refine Ok.bind (P := fun v => yC4 W (va_up (va_up (va_up (va_up (va_up (va_up (va_up n 0 v.1) 1 v.2.1) 2 v.2.2.1) 3 v.2.2.2.1) 4 v.2.2.2.2.1) 5 v.2.2.2.2.2.2.2.1) 6 v.2.2.2.2.2.2.2.2) (va_up (va_up t 0 v.2.2.2.2.2.1) 1 v.2.2.2.2.2.2.1)) ?_ (fun v hv => Ok.some hv)
  have same : Ok (some (nI r, nI kk, nI c, nI g, nI s, t 0, t 1, n 5, n 6)) (fun v => yC4 W (va_up (va_up (va_up (va_up (va_up (va_up (va_up n 0 v.1) 1 v.2.1) 2 v.2.2.1) 3 v.2.2.2.1) 4 v.2.2.2.2.1) 5 v.2.2.2.2.2.2.2.1) 6 v.2.2.2.2.2.2.2.2) (va_up (va_up t 0 v.2.2.2.2.2.1) 1 v.2.2.2.2.2.2.1)) := Ok.some (yPk h J jg rfl rfl rfl rfl rfl t0 t1 d1 d2 hB d3 d4)
  have lft : ∀ a b m, m < 19 → Ok ((fX6_left (nI r) (nI kk) (t 0) (nI a) (nI b) (nI m - 9)).bind fun x_39 => ybr x_39 (fun w_45 => (if w_45 = 1 then some (nI r, nI kk, nI c, nI g, nI s, t 0, t 1, n 5, n 6) else (if w_45 = 2 then some (nI r, nI kk, nI c, nI g, nI s, t 0, t 1, n 5, n 6) else none))) (fun w_50 => some (nI r, nI kk, nI c, nI g, nI s, w_50.2, t 1, n 5, n 6))) (fun v => yC4 W (va_up (va_up (va_up (va_up (va_up (va_up (va_up n 0 v.1) 1 v.2.1) 2 v.2.2.1) 3 v.2.2.2.1) 4 v.2.2.2.2.1) 5 v.2.2.2.2.2.2.2.1) 6 v.2.2.2.2.2.2.2.2) (va_up (va_up t 0 v.2.2.2.2.2.1) 1 v.2.2.2.2.2.2.1)) := fun a b m hm => by
    refine Ok.to (e6_left a1 (by omega) a3 (by omega)) ?_
    rw [if_pos (l_m9 m hm)]
    by_cases q : (yIn (nI a) 0 (r - 1) && yIn (nI b) 0 (kk - 1)) = true
    · rw [if_pos q]
      rw [Bool.and_eq_true] at q
      have q1 := yIn_of q.1
      have q2 := yIn_of q.2
      have u1 := nj_to (x := nI a) (by omega)
      have u2 := nj_to (x := nI b) (by omega)
      have w1 : (nI a).toInt.toNat < 9 := by omega
      have w2 : (nI b).toInt.toNat < 9 := by omega
      generalize (nI a).toInt.toNat = m1 at u1 w1
      generalize (nI b).toInt.toNat = m2 at u2 w2
      rw [u1, u2, nj_cl (by omega), nj_cl (by omega)]
      exact Ok.some (yPk h J jg rfl rfl rfl rfl rfl (yTG_up t0 w1 w2) t1 d1 d2 hB d3 d4)
    · rw [if_neg q]
      exact same
  have tp : ∀ a b m, m < 19 → Ok ((fX6_top (nI kk) (nI c) (t 1) (nI a) (nI b) (nI m - 9)).bind fun x_39 => ybr x_39 (fun w_45 => (if w_45 = 1 then some (nI r, nI kk, nI c, nI g, nI s, t 0, t 1, n 5, n 6) else (if w_45 = 2 then some (nI r, nI kk, nI c, nI g, nI s, t 0, t 1, n 5, n 6) else none))) (fun w_50 => some (nI r, nI kk, nI c, nI g, nI s, t 0, w_50.2, n 5, n 6))) (fun v => yC4 W (va_up (va_up (va_up (va_up (va_up (va_up (va_up n 0 v.1) 1 v.2.1) 2 v.2.2.1) 3 v.2.2.2.1) 4 v.2.2.2.2.1) 5 v.2.2.2.2.2.2.2.1) 6 v.2.2.2.2.2.2.2.2) (va_up (va_up t 0 v.2.2.2.2.2.1) 1 v.2.2.2.2.2.2.1)) := fun a b m hm => by
    refine Ok.to (e6_top a3 (by omega) a5 (by omega)) ?_
    rw [if_pos (l_m9 m hm)]
    by_cases q : (yIn (nI a) 0 (kk - 1) && yIn (nI b) 0 (c - 1)) = true
    · rw [if_pos q]
      rw [Bool.and_eq_true] at q
      have q1 := yIn_of q.1
      have q2 := yIn_of q.2
      have u1 := nj_to (x := nI a) (by omega)
      have u2 := nj_to (x := nI b) (by omega)
      have w1 : (nI a).toInt.toNat < 9 := by omega
      have w2 : (nI b).toInt.toNat < 9 := by omega
      generalize (nI a).toInt.toNat = m1 at u1 w1
      generalize (nI b).toInt.toNat = m2 at u2 w2
      rw [u1, u2, nj_cl (by omega), nj_cl (by omega)]
      exact Ok.some (yPk h J jg rfl rfl rfl rfl rfl t0 (yTG_up t1 w1 w2) d1 d2 hB d3 d4)
    · rw [if_neg q]
      exact same
  unfold fL_act
  refine Ok.ite (fun _ => ?_) (fun _ => ?_)
  · obtain ⟨m1, l1, e1⟩ := l_below x (k := 8) (by decide) (by decide)
    refine Ok.to e1 ?_
    obtain ⟨m2, l2, e2⟩ := l_below (x >>> ((3 : Int32) &&& 31)) (k := 6) (by decide) (by decide)
    refine Ok.to e2 ?_
    obtain ⟨m3, l3, e3⟩ := l_below (x >>> ((5 : Int32) &&& 31)) (k := 8) (by decide) (by decide)
    refine Ok.to e3 ?_
    rw [li1, nj_add, nj_add, nj_add]
    have hv : yVs (nI (1 + m1)) (nI (1 + m2)) (nI (1 + m3)) = true := by
      unfold yVs yIn
      rw [decide_eq_true (show 1 ≤ (nI (1 + m1)).toInt ∧ (nI (1 + m1)).toInt ≤ 8 by rw [yi_nI (by omega)]; omega), decide_eq_true (show 1 ≤ (nI (1 + m3)).toInt ∧ (nI (1 + m3)).toInt ≤ 8 by rw [yi_nI (by omega)]; omega), decide_eq_true (show 1 ≤ (nI (1 + m2)).toInt ∧ (nI (1 + m2)).toInt ≤ 6 by rw [yi_nI (by omega)]; omega)]
      rfl
    refine Ok.to (e6_shape (by omega) (by omega) (by omega)) ?_
    rw [if_pos hv]
    exact Ok.some (yPk h (r2 := 1 + m1) (k2 := 1 + m2) (c2 := 1 + m3) ⟨⟨by omega, by omega⟩, ⟨by omega, by omega⟩, ⟨by omega, by omega⟩, a7, a8⟩ jg rfl rfl rfl rfl rfl yTG_z yTG_z d1 d2 hB d3 d4)
  refine Ok.ite (fun _ => ?_) (fun _ => ?_)
  · obtain ⟨m1, l1, e1⟩ := l_below x (k := 8) (by decide) (by decide)
    refine Ok.to e1 ?_
    obtain ⟨m2, l2, e2⟩ := l_below (x >>> ((3 : Int32) &&& 31)) (k := 6) (by decide) (by decide)
    refine Ok.to e2 ?_
    obtain ⟨m3, l3, e3⟩ := l_below (x >>> ((5 : Int32) &&& 31)) (k := 19) (by decide) (by decide)
    refine Ok.to e3 ?_
    exact lft m1 m2 m3 l3
  refine Ok.ite (fun _ => ?_) (fun _ => ?_)
  · obtain ⟨m1, l1, e1⟩ := l_below x (k := 8) (by decide) (by decide)
    refine Ok.to e1 ?_
    obtain ⟨m2, l2, e2⟩ := l_below (x >>> ((3 : Int32) &&& 31)) (k := 6) (by decide) (by decide)
    refine Ok.to e2 ?_
    obtain ⟨m3, l3, e3⟩ := l_below (x >>> ((5 : Int32) &&& 31)) (k := 19) (by decide) (by decide)
    refine Ok.to e3 ?_
    exact lft m1 m2 m3 l3
  refine Ok.ite (fun _ => ?_) (fun _ => ?_)
  · obtain ⟨m1, l1, e1⟩ := l_below x (k := 6) (by decide) (by decide)
    refine Ok.to e1 ?_
    obtain ⟨m2, l2, e2⟩ := l_below (x >>> ((3 : Int32) &&& 31)) (k := 8) (by decide) (by decide)
    refine Ok.to e2 ?_
    obtain ⟨m3, l3, e3⟩ := l_below (x >>> ((5 : Int32) &&& 31)) (k := 19) (by decide) (by decide)
    refine Ok.to e3 ?_
    exact tp m1 m2 m3 l3
  refine Ok.ite (fun _ => ?_) (fun _ => ?_)
  · obtain ⟨m1, l1, e1⟩ := l_below x (k := 6) (by decide) (by decide)
    refine Ok.to e1 ?_
    obtain ⟨m2, l2, e2⟩ := l_below (x >>> ((3 : Int32) &&& 31)) (k := 8) (by decide) (by decide)
    refine Ok.to e2 ?_
    obtain ⟨m3, l3, e3⟩ := l_below (x >>> ((5 : Int32) &&& 31)) (k := 19) (by decide) (by decide)
    refine Ok.to e3 ?_
    exact tp m1 m2 m3 l3
  refine Ok.ite (fun _ => ?_) (fun _ => ?_)
  · obtain ⟨m1, l1, e1⟩ := l_below x (k := 3) (by decide) (by decide)
    refine Ok.to e1 ?_
    refine Ok.to e6_kind ?_
    rw [if_pos (show yIn (nI m1) 0 2 = true from decide_eq_true (by rw [yi_nI (by omega)]; omega))]
    have es : (if nI m1 = 0 then nI s else 0) = nI (if m1 = 0 then s else 0) := by
      by_cases z : m1 = 0
      · rw [if_pos z, z]
        exact if_pos rfl
      · rw [if_neg z]
        exact if_neg (by rw [li0, nj_eq (by omega) (by decide)]; exact z)
    refine Ok.some (yPk h (r2 := r) (k2 := kk) (c2 := c) (g2 := m1) (s2 := if m1 = 0 then s else 0) ⟨⟨a1, a2⟩, ⟨a3, a4⟩, ⟨a5, a6⟩, by omega, ?_⟩ (fun z => ?_) rfl rfl rfl rfl es t0 t1 d1 d2 hB d3 d4)
    · split <;> omega
    · by_cases w : m1 = 0
      · exact w
      · rw [if_neg w] at z
        exact absurd z (by decide)
  refine Ok.ite (fun _ => ?_) (fun _ => ?_)
  · obtain ⟨m1, l1, e1⟩ := l_below x (k := 3) (by decide) (by decide)
    refine Ok.to e1 ?_
    refine Ok.bind l_bo (fun ib hb => ?_)
    refine Ok.to (e6_checked a7 a8 hb) ?_
    by_cases q : ib = 0 ∨ g = 0
    · rw [if_pos q]
      rcases hb with rfl | rfl
      · exact Ok.some (yPk h (r2 := r) (k2 := kk) (c2 := c) (g2 := g) (s2 := 0) ⟨⟨a1, a2⟩, ⟨a3, a4⟩, ⟨a5, a6⟩, a7, by decide⟩ (fun z => absurd z (by decide)) rfl rfl rfl rfl rfl t0 t1 d1 d2 hB d3 d4)
      · exact Ok.some (yPk h (r2 := r) (k2 := kk) (c2 := c) (g2 := g) (s2 := 1) ⟨⟨a1, a2⟩, ⟨a3, a4⟩, ⟨a5, a6⟩, a7, by decide⟩ (fun _ => q.elim (fun z => absurd z (by decide)) id) rfl rfl rfl rfl rfl t0 t1 d1 d2 hB d3 d4)
    · rw [if_neg q]
      exact same
  · obtain ⟨m1, l1, e1⟩ := l_below x (k := 5) (by decide) (by decide)
    refine Ok.to e1 ?_
    obtain ⟨m2, l2, e2⟩ := l_below (x >>> ((3 : Int32) &&& 31)) (k := 5) (by decide) (by decide)
    refine Ok.to e2 ?_
    obtain ⟨m3, l3, e3⟩ := l_below (x >>> ((5 : Int32) &&& 31)) (k := 3) (by decide) (by decide)
    refine Ok.to e3 ?_
    refine Ok.bind l_bo (fun ib hb => ?_)
    obtain ⟨v, b, k, e4, B2, K2, f1, f2, f3, f4, f5⟩ := e6_broken l1 l2 hb d1 d2 hB d3 d4
    refine Ok.to e4 ?_
    exact Ok.some (yPk h J jg rfl rfl rfl rfl rfl t0 t1 f1 f2 f3 f4 f5)
