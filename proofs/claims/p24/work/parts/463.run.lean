/-! ===== the class while a work runs, all of its cells whole ===== -/
theorem yTq_cp' {a b : Nat} {f o : Nat → Int32} {G : Nat → Nat → Int32} (h : yTq a b f G) (ha : a ≤ 9) (hb : b ≤ 9) : yTq a b (yCp f o 81) G := by
  intro i j hi hj
  have e1 : yCp f o 81 (i * 9 + j) = f (i * 9 + j) := if_pos (by omega)
  rw [e1]
  exact h i j hi hj
theorem ySk_cp (r k c g : Nat) (G H : Nat → Nat → Int32) : ySk k (yIdle g r (yTop r G (fun _ _ => 0)) c (yTop k H (fun _ _ => 0))) = ySk k (yIdle g r G c H) := by
  have e : ∀ t, t < k → yIdle g r (yTop r G (fun _ _ => 0)) c (yTop k H (fun _ _ => 0)) t = yIdle g r G c H t := fun t ht => by
    unfold yIdle
    rw [yAll_ext (n := r) (q := fun i => decide (G i t = 0)) (fun i hi => by
      have e2 : yTop r G (fun _ _ => 0) i = G i := if_pos hi
      rw [e2])]
    have e3 : yTop k H (fun _ _ => 0) t = H t := if_pos ht
    rw [e3]
  unfold ySk
  rw [yBits_ext e]
theorem yNth_bit : ∀ m, m < 32 → ∀ i, i < yPop m → yBit m (yNth m i) = true := by decide +kernel
theorem yOKB_of {lr lc : Nat} {B : Nat → Nat → Int32} (Y : yLay lr lc) (h : yCross B lr lc = false) : yOKB lr lc B := by
  intro i j hi hj
  have n1 := yNth_lt lr Y.1.2 i hi
  have n2 := yNth_lt lc Y.2.2 j hj
  have a1 := yAny_no (yAny_no h _ n1) _ n2
  rw [yNth_bit lr Y.1.2 i hi, yNth_bit lc Y.2.2 j hj, Bool.true_and, Bool.true_and, Bool.not_eq_false', decide_eq_true_eq] at a1
  exact a1
/-- of a work that runs: what was told, the mesh, its layout, how far it is -/
def yU4 (W : Nat) (n : Nat → Int32) (t : Nat → Nat → Int32) (r kk c g s : Nat) (G H B : Nat → Nat → Int32) (lr lc : Nat) (z : yRS) : Prop := (yJob r kk c g s ∧ (s = 1 → g = 0) ∧ n 0 = nI r ∧ n 1 = nI kk ∧ n 2 = nI c ∧ n 3 = nI g ∧ n 4 = nI s) ∧ (yTG (t 0) G ∧ yTG (t 1) H) ∧ (yFlag (n 5) B ∧ yFlag (n 6) B ∧ BG B) ∧ (yLay lr lc ∧ yOKB lr lc B) ∧ yRI r kk c g s lr lc (yJst r kk c g G H) z ∧ yCR r kk c g s lr lc G H z (n 11) (n 12) (n 13) (n 14) (n 15) (n 16) (t 2) (t 3) (t 4) ∧ n 10 = nI (ySk kk (yIdle g r G c H)) ∧ (n 19 = nI r ∧ n 20 = nI kk ∧ n 21 = nI c ∧ n 22 = nI g ∧ n 23 = nI s) ∧ (n 24 = nI (r + s) ∧ n 25 = nI (c + s) ∧ n 26 = nI (yJst r kk c g G H) ∧ n 27 = nI lr ∧ n 28 = nI lc ∧ n 29 = nI (yPop lr) ∧ n 30 = nI (yPop lc)) ∧ (yTq r kk (t 5) G ∧ yTq kk c (t 6) H) ∧ yV r kk c g s lr lc G H z ∧ yX r c s lr lc (yJst r kk c g G H) W z.1 z.2.1 z.2.2.1 z.2.2.2.1 z.2.2.2.2.1 (n 18)
theorem yGo_lay {R C st : Nat} {z : Nat × Nat × Nat} (h : yGo R C st z) (hz : ¬ z.2.1 = 0) : yLay z.2.1 z.2.2 := by
  rcases h with h | ⟨h1, h2, h3, h4, _⟩
  · exact absurd h.1 hz
  · exact ⟨⟨h1, h2⟩, h3, h4⟩
theorem g_start {W : Nat} {n : Nat → Int32} {t : Nat → Nat → Int32} {r kk c g s Rn Rk : Nat} {G H B U R : Nat → Nat → Int32} (h : yS4 W n t r kk c g s G H B B Rn Rk U R) (hB : BG B) (hz : ¬ (yJb r kk c g s G H B).2.1 = 0) : ∃ x z lr lc, gX6_start n t = some x ∧ x.1 = nI (yLeft r kk c g s lr lc G H z) ∧ nI (yLeft r kk c g s lr lc G H z) = yBT (r + s) (c + s) (yJst r kk c g G H) (yJb r kk c g s G H B) 0 ∧ yU4 (W + 2000) x.2.1 x.2.2 r kk c g s G H B lr lc z := by
  obtain ⟨⟨J, jg, h0, h1, h2, h3, h4⟩, ⟨b1, b2⟩, ⟨d1, d2, d3, d4⟩, h15, hu, hres, ta, hX⟩ := id h
  obtain ⟨hf, hh⟩ := yS4_q h
  obtain ⟨⟨a1, a2⟩, ⟨a3, a4⟩, ⟨a5, a6⟩, a7, a8⟩ := id J
  have st := yJst_of G H J
  obtain ⟨o6, e6, p0, p1, p2, p3, p4⟩ := c_findBest (x3 := n 47) (x4 := n 48) (x5 := n 49) (x6 := n 50) (x7 := n 51) (x8 := n 52) (x9 := n 53) J hf hh d2
  have Y := yGo_lay p0 hz
  have bm := yBest_min (K := B) (R := r + s) (C := c + s) (st := yJst r kk c g G H)
  have hx : yCross B (yJb r kk c g s G H B).2.1 (yJb r kk c g s G H B).2.2 = false := (bm.2 hz).1
  have hO := yOKB_of Y hx
  have eT : yBT (r + s) (c + s) (yJst r kk c g G H) (yJb r kk c g s G H B) 0 = nI (yBeats (r + s) (c + s) (yPop (yJb r kk c g s G H B).2.1) (yPop (yJb r kk c g s G H B).2.2) (yJst r kk c g G H)) := (if_neg hz).trans (if_pos rfl)
  have gg := yGeo J Y
  have tb := yTb_of (ti := 0) J Y (by omega) st.1 (by omega)
  have fa := yFrom_all J Y st.1
  rw [eT, yBf_eq gg.1.1 gg.2.1.1 st.1]
  obtain ⟨o1, o2, o3, o4, o5, o7, o8, o9, o10, o11, ot⟩ := o6
  dsimp only at p1 p2 p3 p4
  unfold yLy at p4
  cases p4
  subst p1 p2 p3
  have ee : fX2_isEmpty (nI (yJb r kk c g s G H B).2.1) (nI (yJb r kk c g s G H B).2.2) = some (yb false) := by
    refine (c_empty Y.1.2 Y.2.2).trans ?_
    rw [beq_false_of_ne (show (yJb r kk c g s G H B).2.1 ≠ 0 from hz), beq_false_of_ne (show (yJb r kk c g s G H B).2.2 ≠ 0 by have := Y.2.1; omega)]
    rfl
  have eb := c_begin (ose := n 17) (oa := t 5) (ob := t 6) (wm := t 3) J hf hh Y.1.2 Y.2.2
  rw [ySk_cp] at eb
  generalize (yJb r kk c g s G H B).2.1 = lr at *
  generalize (yJb r kk c g s G H B).2.2 = lc at *
  have eL : yLeft r kk c g s lr lc G H ((n 16, ta, 0, 0, U, yFill g (fun _ _ => 0), 0, 0, fun _ _ => 0) : yRS) = yBf (r + s) (c + s) (yPop lr) (yPop lc) (yJst r kk c g G H) := by
    show yFrom r c s lr lc (yJst r kk c g G H) 0 - 0 = _
    rw [fa, Nat.sub_zero]
  unfold gX6_start fX6_start
  simp only [h0, h1, h2, h3, h4, h15]
  refine ⟨_, (n 16, ta, 0, 0, U, yFill g (fun _ _ => 0), 0, 0, fun _ _ => 0), lr, lc, bto (bto (show fX5_runs 0 = some 0 from rfl) ((if_pos rfl).trans (bto e6 (bto ee ((if_pos (show yb false = 0 by decide)).trans (bto eb (bto (show fX3_clear = some (0, 0, 0) from rfl) rfl))))))) rfl, ?_, congrArg nI eL, ⟨J, jg, h0, h1, h2, h3, h4⟩, ⟨b1, b2⟩, ⟨d1, d2, hB⟩, ⟨Y, hO⟩, ?_, ?_, rfl, ⟨rfl, rfl, rfl, rfl, rfl⟩, ⟨rfl, rfl, rfl, rfl, rfl, rfl, rfl⟩, ⟨yTq_cp' hf (by omega) (by omega), yTq_cp' hh (by omega) (by omega)⟩, yV_0 J Y, yX_0 J Y st.1 (by omega) hX⟩
  · exact congrArg nI eL.symm
  · exact ⟨by show 0 < yNt r c s lr lc; omega, by show 0 < yTb r c s lr lc _ 0; omega, Or.inl rfl⟩
  · refine ⟨rfl, ?_, ?_, rfl, ?_, rfl, hu, yT5_fill, fun a b _ _ hq => absurd hq.2.2 (Nat.not_lt_zero _)⟩
    · show (0 : Int32) = nI (0 / _ * _)
      rw [Nat.zero_div, Nat.zero_mul]
      rfl
    · show (0 : Int32) = nI (0 % _ * _)
      rw [Nat.zero_mod, Nat.zero_mul]
      rfl
    · show nI _ = nI (yFrom r c s lr lc (yJst r kk c g G H) 0 - 0)
      rw [fa, Nat.sub_zero]
/-- what is left when it has ended: results that are plain -/
def yE4 (W : Nat) (n : Nat → Int32) (t : Nat → Nat → Int32) (r kk c g s : Nat) (G H B : Nat → Nat → Int32) : Prop := BG B ∧ n 9 = nI s ∧ ∃ U R, yS4 W n t r kk c g s G H B B (r + s) (c + s) U R ∧ ∀ a b, a < r + s → b < c + s → R a b = yPlain r kk c g r G c H a b
theorem g_beat {W : Nat} {n : Nat → Int32} {t : Nat → Nat → Int32} {r kk c g s lr lc : Nat} {G H B : Nat → Nat → Int32} {z : yRS} (h : yU4 W n t r kk c g s G H B lr lc z) : ∃ x, gX6_beat n t 7 = some x ∧ x.1 = nI (yLeft r kk c g s lr lc G H z - 7) ∧ ((7 < yLeft r kk c g s lr lc G H z ∧ ∃ q, yLeft r kk c g s lr lc G H q + 7 = yLeft r kk c g s lr lc G H z ∧ yU4 W x.2.1 x.2.2 r kk c g s G H B lr lc q) ∨ (yLeft r kk c g s lr lc G H z ≤ 7 ∧ yE4 W x.2.1 x.2.2 r kk c g s G H B)) := by
  obtain ⟨⟨J, jg, h0, h1, h2, h3, h4⟩, ⟨b1, b2⟩, ⟨d1, d2, d3⟩, ⟨Y, hO⟩, hI, hR, e10, ⟨e19, e20, e21, e22, e23⟩, ⟨e24, e25, e26, e27, e28, e29, e30⟩, ⟨hf, hh⟩, hV, hX⟩ := h
  obtain ⟨oo, eoo, w, hbo, hoo⟩ := c_beat (n := 7) (otk := n 18) (zr := n 7) (zc := n 8) (zs := n 9) (fun q o => yV r kk c g s lr lc G H q ∧ yX r c s lr lc (yJst r kk c g G H) W q.1 q.2.1 q.2.2.1 q.2.2.2.1 q.2.2.2.2.1 o) (fun q o => yVE r kk c g s G H q ∧ yXE W q.1 q.2.1 q.2.2.2.2.1 o) J Y hI hf hh d1 hR ⟨hV, hX⟩ (fun z q o o' a1 a2 a3 a4 a5 => ⟨yV_step J Y hO a1 a2.1 a3, yX_step J Y a1 a2.2 a3 a4 a5⟩) (fun z q o o' a1 a2 a3 a4 => ⟨yV_last J Y hO a1 a2.1 a3, yX_last J Y a1 a2.2 a3 a4⟩) (by decide) (by decide)
  subst hoo
  have hp := yLeft_pos J Y hI
  have hl := yRun_left (B := B) J Y hI 7
  unfold gX6_beat
  rw [e10, e19, e21, e22, e23, e24, e25, e26, e27, e28, e29, e30]
  refine ⟨_, bto eoo rfl, ?_⟩
  rcases hbo with ⟨q, q1, q2, q3, q4, q5, q6, qV, qX⟩ | ⟨q, q1, q2, qV, qX⟩
  · rcases hl with ⟨p, p1, p2, p3⟩ | ⟨p, p1, p2⟩
    · rw [q1] at p1
      cases p1
      have hq := yLeft_pos J Y q2
      refine ⟨?_, Or.inl ⟨by omega, q, p3, ⟨J, jg, h0, h1, h2, h3, h4⟩, ⟨b1, b2⟩, ⟨d1, d2, d3⟩, ⟨Y, hO⟩, q2, q3, e10, ⟨e19, e20, e21, e22, e23⟩, ⟨e24, e25, e26, e27, e28, e29, e30⟩, ⟨hf, hh⟩, qV, qX⟩⟩
      refine q3.2.2.2.2.1.trans (congrArg nI ?_)
      show yLeft r kk c g s lr lc G H q = _
      omega
    · rw [q1] at p1
      cases p1
  · rcases hl with ⟨p, p1, p2, p3⟩ | ⟨p, p1, p2⟩
    · rw [q1] at p1
      cases p1
    · obtain ⟨c1, c2, c3, c4, c5, c6, c7, c8⟩ := q2
      obtain ⟨⟨a1, a2⟩, ⟨a3, a4⟩, ⟨a5, a6⟩, a7, a8⟩ := id J
      refine ⟨?_, Or.inr ⟨p2, d3, c7, q.2.2.2.2.1, q.2.2.2.2.2.2.2.2, ⟨⟨J, jg, h0, h1, h2, h3, h4⟩, ⟨b1, b2⟩, ⟨d1, d2, d3, fun i j _ _ z => z⟩, c1, c3, ⟨c5, c6, by omega, by omega, fun z => by omega, fun _ => by omega, fun a b ha hb => c8 a b (by omega) (by omega) ⟨ha, hb⟩⟩, q.2.1, ?_⟩, qV⟩⟩
      · rw [show yLeft r kk c g s lr lc G H z - 7 = 0 by omega]
        exact c1
      · obtain ⟨b, T, x1, x2, x3, x4, x5, x6⟩ := qX
        exact ⟨b, T, c2.trans x1, x2, x3, x4, x5, x6⟩
theorem g_result {W i j : Nat} {n : Nat → Int32} {t : Nat → Nat → Int32} {r kk c g s Rn Rk : Nat} {G H B K U R : Nat → Nat → Int32} (h : yS4 W n t r kk c g s G H B K Rn Rk U R) (hi : i < Rn) (hj : j < Rk) : gX6_result n t (nI i) (nI j) = some (R i j, n, t) := by
  obtain ⟨_, _, _, _, _, ⟨f1, f2, f3, f4, f5, f6, f7⟩, _⟩ := h
  have hh : yHas Rn Rk (nI i) (nI j) = true := by
    unfold yHas yIn
    rw [Bool.and_eq_true, decide_eq_true_eq, decide_eq_true_eq, yi_nI (by omega), yi_nI (by omega)]
    omega
  have e := c_result f3 f4 f7 hh
  rw [nj_cl (by omega), nj_cl (by omega), ← f1, ← f2] at e
  exact bto e rfl
theorem g_plain {W i j : Nat} {n : Nat → Int32} {t : Nat → Nat → Int32} {r kk c g s Rn Rk : Nat} {G H B K U R : Nat → Nat → Int32} (h : yS4 W n t r kk c g s G H B K Rn Rk U R) (hi : i < r + s) (hj : j < c + s) : gX6_plain n t (nI i) (nI j) = some (yPlain r kk c g r G c H i j, n, t) := by
  obtain ⟨⟨J, _, h0, h1, h2, h3, h4⟩, _⟩ := id h
  obtain ⟨hf, hh⟩ := yS4_q h
  obtain ⟨⟨a1, a2⟩, ⟨a3, a4⟩, ⟨a5, a6⟩, a7, a8⟩ := id J
  unfold gX6_plain
  rw [h0, h1, h2, h3, h4]
  exact bto (c_plain J hf hh hi hj) rfl
theorem g_bend {W i j : Nat} {n : Nat → Int32} {t : Nat → Nat → Int32} {r kk c g s Rn Rk : Nat} {G H B K U R : Nat → Nat → Int32} {d : Int32} (h : yS4 W n t r kk c g s G H B K Rn Rk U R) (hi : i < Rn) (hj : j < Rk) (hd : yIn d (-999) 999 = true) : ∃ x, gX6_bend n t (nI i) (nI j) d = some x ∧ x.2.1 = n ∧ yS4 W x.2.1 x.2.2 r kk c g s G H B K Rn Rk U (upg R i j (R i j + d)) := by
  obtain ⟨p1, p2, p3, p4, p5, ⟨f1, f2, f3, f4, f5, f6, f7⟩, p6⟩ := h
  have hh : yHas Rn Rk (nI i) (nI j) = true := by
    unfold yHas yIn
    rw [Bool.and_eq_true, decide_eq_true_eq, decide_eq_true_eq, yi_nI (by omega), yi_nI (by omega)]
    omega
  have e := c_bend f3 f4 f7 hh hd
  rw [nj_cl (by omega), nj_cl (by omega), ← f1, ← f2] at e
  exact ⟨_, bto e rfl, rfl, p1, p2, p3, p4, p5, ⟨f1, f2, f3, f4, f5, f6, yTq_up f7 f4 hi hj⟩, p6⟩
theorem g_check {W : Nat} {n : Nat → Int32} {t : Nat → Nat → Int32} {r kk c g s Rn Rk : Nat} {G H B K U R : Nat → Nat → Int32} (h : yS4 W n t r kk c g s G H B K Rn Rk U R) (h9 : n 9 = 1) (hn : 1 ≤ Rn) : ∃ x, gX6_check n t = some x ∧ x.1 = nI (yVerd Rn Rk R) ∧ x.2.1 = n ∧ x.2.2 = va_up t 4 (yRes Rn Rk (t 4) R) := by
  obtain ⟨p1, p2, p3, p4, p5, ⟨f1, f2, f3, f4, f5, f6, f7⟩, p6⟩ := h
  have e := c_check (zs := n 9) f3 f4 hn (f6 hn) (by rw [h9]; decide) f7
  rw [← f1, ← f2] at e
  exact ⟨_, bto e rfl, rfl, rfl, rfl⟩
theorem g_check0 {W : Nat} {n : Nat → Int32} {t : Nat → Nat → Int32} {r kk c g s Rn Rk : Nat} {G H B K U R : Nat → Nat → Int32} (h : yS4 W n t r kk c g s G H B K Rn Rk U R) (h9 : n 9 = 1) (hn : 1 ≤ Rn) (hs : ySums Rn Rk R) : ∃ x, gX6_check n t = some x ∧ x.1 = 0 ∧ yS4 W x.2.1 x.2.2 r kk c g s G H B K Rn Rk U R := by
  obtain ⟨x, ex, e1, e2, e3⟩ := g_check h h9 hn
  have ev := ySums_ok hs
  rw [ev] at e1
  refine ⟨x, ex, e1, ?_⟩
  unfold yRes at e3
  rw [ev, if_neg (by decide)] at e3
  rw [e2, e3]
  exact yS4_same h rfl rfl rfl rfl rfl rfl rfl rfl rfl rfl rfl rfl rfl rfl rfl rfl
theorem yTq_up2 {a b i j : Nat} {f : Nat → Int32} {R : Nat → Nat → Int32} {v x : Int32} (h : yTq a b f (upg R i j v)) (hb : b ≤ 9) (hi : i < a) (hj : j < b) (hx : x = R i j) : yTq a b (upd f (i * 9 + j) x) R := by
  intro p q hp hq
  have e := yTq_up (x := x) h hb hi hj p q hp hq
  rw [e]
  unfold upg upd
  by_cases h1 : p = i
  · by_cases h2 : q = j
    · rw [if_pos h1, if_pos h2, hx, h1, h2]
    · rw [if_pos h1, if_neg h2]
      show (if i = i then (if q = j then v else R i q) else R i q) = R p q
      rw [if_pos rfl, if_neg h2, h1]
  · rw [if_neg h1, if_neg h1]
theorem g_check1 {W i j : Nat} {n : Nat → Int32} {t : Nat → Nat → Int32} {r kk c g s Rn Rk : Nat} {G H B K U R : Nat → Nat → Int32} {d : Int32} (h : yS4 W n t r kk c g s G H B K Rn Rk U (upg R i j (R i j + d))) (h9 : n 9 = 1) (hs : ySums Rn Rk R) (hi : i < Rn) (hj : j < Rk) (hd : d ≠ 0) : ∃ x, gX6_check n t = some x ∧ x.1 = 1 ∧ x.2.1 = n ∧ yS4 W x.2.1 x.2.2 r kk c g s G H B K Rn Rk U R := by
  obtain ⟨x, ex, e1, e2, e3⟩ := g_check h h9 (by omega)
  obtain ⟨v1, v2, v3, v4⟩ := yBent (d := d) hs hi hj hd
  rw [v1] at e1
  refine ⟨x, ex, e1, e2, ?_⟩
  unfold yRes at e3
  rw [v1, if_pos rfl, v2, v3, v4] at e3
  obtain ⟨p1, p2, p3, p4, p5, ⟨f1, f2, f3, f4, f5, f6, f7⟩, p6⟩ := h
  rw [e2, e3]
  exact ⟨p1, p2, p3, p4, p5, ⟨f1, f2, f3, f4, f5, f6, yTq_up2 f7 f4 hi hj yMend⟩, p6⟩
theorem yFt_4 {W : Nat} {n : Nat → Int32} {t : Nat → Nat → Int32} {r kk c g s Rn Rk : Nat} {G H B K U R : Nat → Nat → Int32} (h : yS4 W n t r kk c g s G H B K Rn Rk U R) : yFt n t := by
  obtain ⟨_, _, _, w1, w3, _, ta, b, T, x1, x2, x3, x4, x5, x6⟩ := h
  refine ⟨?_, ?_⟩
  · unfold fX6_doUsesAddUp
    refine bto (c_sumOfUses w3) ?_
    rw [w1]
    refine bto (show fX5_takenInTile (n 12) (n 13) (n 14) 0 (n 24) (n 25) (n 26) (n 29) (n 30) = some 0 from rfl) ?_
    exact if_pos (by rw [yUse_32 x2, x6, Int32.add_zero])
  · rw [w1]
    rfl
