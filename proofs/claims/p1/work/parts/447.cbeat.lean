/-! ===== beat and start in the class ===== -/
abbrev yBT14 : Type := Int32 × Int32 × Int32 × Int32 × Int32 × Int32 × Int32 × Int32 × (Nat → Int32) × (Nat → Int32) × Int32 × Int32 × Int32 × (Nat → Int32)
def yBo (r k c g s lr lc : Nat) (G H B : Nat → Nat → Int32) (X XE : yRS → Int32 → Prop) (z : yRS) (n : Nat) (zr zc zs : Int32) (w : yPT) : Prop := (∃ q, yRun r k c g s lr lc G H B z n = .inl q ∧ yRI r k c g s lr lc (yJst r k c g G H) q ∧ yCR r k c g s lr lc G H q w.1 w.2.1 w.2.2.1 w.2.2.2.1 w.2.2.2.2.1 w.2.2.2.2.2.1 w.2.2.2.2.2.2.2.1 w.2.2.2.2.2.2.2.2.1 w.2.2.2.2.2.2.2.2.2.2.2.2 ∧ w.2.2.2.2.2.2.2.2.2.1 = zr ∧ w.2.2.2.2.2.2.2.2.2.2.1 = zc ∧ w.2.2.2.2.2.2.2.2.2.2.2.1 = zs ∧ X q w.2.2.2.2.2.2.1) ∨ (∃ q, yRun r k c g s lr lc G H B z n = .inr q ∧ yCE r c s q w.2.2.2.2.1 w.2.2.2.2.2.1 w.2.2.2.2.2.2.2.2.2.1 w.2.2.2.2.2.2.2.2.2.2.1 w.2.2.2.2.2.2.2.2.2.2.2.1 w.2.2.2.2.2.2.2.1 w.2.2.2.2.2.2.2.2.1 w.2.2.2.2.2.2.2.2.2.2.2.2 ∧ XE q w.2.2.2.2.2.2.1)
theorem c_beat {r k c g s lr lc n : Nat} {f h u m v : Nat → Int32} {G H B : Nat → Nat → Int32} {wb oti ofr ofc obt obl obe otk zr zc zs : Int32} {z : yRS} (X XE : yRS → Int32 → Prop) (J : yJob r k c g s) (Y : yLay lr lc) (hz : yRI r k c g s lr lc (yJst r k c g G H) z) (hf : yTq r k f G) (hh : yTq k c h H) (hB : yFlag wb B) (hR : yCR r k c g s lr lc G H z oti ofr ofc obt obl obe u m v) (hX : X z otk) (hX1 : ∀ z q o o', yRI r k c g s lr lc (yJst r k c g G H) z → X z o → yOneZ r k c g s lr lc G H B z = .inl q → (z.2.2.2.1 + 1 = yTb r c s lr lc (yJst r k c g G H) z.2.2.1 → o' = o + nI (yTr r c s lr lc z.2.2.1 * yTc c s lc z.2.2.1 * yJst r k c g G H)) → (¬ z.2.2.2.1 + 1 = yTb r c s lr lc (yJst r k c g G H) z.2.2.1 → o' = o) → X q o') (hX2 : ∀ z q o o', yRI r k c g s lr lc (yJst r k c g G H) z → X z o → yOneZ r k c g s lr lc G H B z = .inr q → (z.2.2.2.1 + 1 = yTb r c s lr lc (yJst r k c g G H) z.2.2.1 → o' = o + nI (yTr r c s lr lc z.2.2.1 * yTc c s lc z.2.2.1 * yJst r k c g G H)) → XE q o') (hn1 : 1 ≤ n) (hn2 : n ≤ 300) : Ok (fX6_beat (nI (ySk k (yIdle g r G c H))) oti ofr ofc obt obl obe otk (nI r) (nI c) (nI g) (nI s) f h (nI (r + s)) (nI (c + s)) (nI (yJst r k c g G H)) (nI lr) (nI lc) (nI (yPop lr)) (nI (yPop lc)) wb u m zr zc zs v (nI n)) (fun o => ∃ w : yPT, yBo r k c g s lr lc G H B X XE z n zr zc zs w ∧ o = .inr (w.2.2.2.2.1, w.1, w.2.1, w.2.2.1, w.2.2.2.1, w.2.2.2.2.1, w.2.2.2.2.2.1, w.2.2.2.2.2.2.1, w.2.2.2.2.2.2.2.1, w.2.2.2.2.2.2.2.2.1, w.2.2.2.2.2.2.2.2.2.1, w.2.2.2.2.2.2.2.2.2.2.1, w.2.2.2.2.2.2.2.2.2.2.2.1, w.2.2.2.2.2.2.2.2.2.2.2.2)) := by
  have lft : ∀ q : yRS, yRI r k c g s lr lc (yJst r k c g G H) q → 1 ≤ yFrom r c s lr lc (yJst r k c g G H) q.2.2.1 - q.2.2.2.1 ∧ yFrom r c s lr lc (yJst r k c g G H) q.2.2.1 - q.2.2.2.1 < 2000 := fun q hq => by
    have st := yJst_of G H J
    have k6 := J.2.1.2
    have ff := yFrom_step (st := yJst r k c g G H) hq.1
    have fl := yFrom_le (ti := q.2.2.1) (st := yJst r k c g G H) J Y st.1 (by omega)
    have := hq.2.1
    omega
  have run1 : ∀ q : yRS, yRI r k c g s lr lc (yJst r k c g G H) q → fX5_runs (nI (yFrom r c s lr lc (yJst r k c g G H) q.2.2.1 - q.2.2.2.1)) = some (yb true) := fun q hq => by
    have l := lft q hq
    refine (c_runs (by omega)).trans ?_
    rw [beq_false_of_ne (show yFrom r c s lr lc (yJst r k c g G H) q.2.2.1 - q.2.2.2.1 ≠ 0 by omega)]
    rfl
  unfold fX6_beat
  refine Ok.ite (fun w => absurd w (by rw [li1, nj_lt (by omega) (by omega)]; omega)) (fun _ => ?_)
  refine Ok.ite (fun _ => ?_) (fun w => absurd (show nI n ≤ 300 by rw [show (300 : Int32) = nI 300 from rfl, nj_le (by omega) (by decide)]; exact hn2) w)
  have r5 := hR.2.2.2.2.1
  rw [r5]
  refine Ok.to (run1 z hz) ?_
  rw [← r5]
  refine Ok.ite (fun w => absurd w (by decide)) (fun _ => ?_)
  refine Ok.bind (Ok.for (P := fun (b : yBT14) => yBo r k c g s lr lc G H B X XE z n zr zc zs b.2) (fun (i : Nat) (y : yBT14) => y.1 = nI i ∧ ((∃ q, yRun r k c g s lr lc G H B z i = .inl q ∧ yRI r k c g s lr lc (yJst r k c g G H) q ∧ yCR r k c g s lr lc G H q y.2.1 y.2.2.1 y.2.2.2.1 y.2.2.2.2.1 y.2.2.2.2.2.1 y.2.2.2.2.2.2.1 y.2.2.2.2.2.2.2.2.1 y.2.2.2.2.2.2.2.2.2.1 y.2.2.2.2.2.2.2.2.2.2.2.2.2 ∧ y.2.2.2.2.2.2.2.2.2.2.1 = zr ∧ y.2.2.2.2.2.2.2.2.2.2.2.1 = zc ∧ y.2.2.2.2.2.2.2.2.2.2.2.2.1 = zs ∧ X q y.2.2.2.2.2.2.2.1) ∨ (∃ q, yRun r k c g s lr lc G H B z n = .inr q ∧ yCE r c s q y.2.2.2.2.2.1 y.2.2.2.2.2.2.1 y.2.2.2.2.2.2.2.2.2.2.1 y.2.2.2.2.2.2.2.2.2.2.2.1 y.2.2.2.2.2.2.2.2.2.2.2.2.1 y.2.2.2.2.2.2.2.2.1 y.2.2.2.2.2.2.2.2.2.1 y.2.2.2.2.2.2.2.2.2.2.2.2.2 ∧ XE q y.2.2.2.2.2.2.2.1))) 0 n ⟨rfl, Or.inl ⟨z, rfl, hz, hR, rfl, rfl, rfl, hX⟩⟩ (Nat.zero_le _) (by omega) (fun i y _ hi hI => ?_) (fun y hI => ?_)) (fun b hb => Ok.some ⟨b.2, hb, rfl⟩)
  · obtain ⟨cnt, y1, y2, y3, y4, y5, y6, y7, y8, y9, y10, y11, y12, y13⟩ := y
    obtain ⟨hc, hI⟩ := hI
    have hc : cnt = nI i := hc
    subst hc
    dsimp only at hI ⊢
    refine Ok.ite (fun w => absurd w (by rw [nj_le (by omega) (by omega)]; omega)) (fun _ => ?_)
    rcases hI with ⟨q, e1, e2, e3, e4, e5, e6, e7⟩ | ⟨q, e1, e2, e3⟩
    · have r5 := e3.2.2.2.2.1
      rw [r5]
      refine Ok.to (run1 q e2) ?_
      rw [← r5]
      refine Ok.ite (fun w => absurd w (by decide)) (fun _ => ?_)
      have hS : yRun r k c g s lr lc G H B z (i + 1) = yOneZ r k c g s lr lc G H B q := by
        show (match yRun r k c g s lr lc G H B z i with
          | .inl q => yOneZ r k c g s lr lc G H B q
          | .inr q => .inr q) = _
        rw [e1]
      refine Ok.bind (c_pulse J Y e2 hf hh hB e3) (fun o ho => ?_)
      obtain ⟨p1, p2, p3⟩ := ho
      rcases yOne_inv (B := B) J Y e2 with ⟨q2, f1, f2, f3⟩ | ⟨q2, f1, f2, f3, f4, f5⟩
      · rw [f1] at p1
        obtain ⟨p1, p4, p5, p6⟩ := p1
        exact Ok.some ⟨nj_p1 _, Or.inl ⟨q2, hS.trans f1, f2, p1, p4.trans e4, p5.trans e5, p6.trans e6, hX1 q q2 _ _ e2 e7 f1 p2 p3⟩⟩
      · rw [f1] at p1
        have hE : yRun r k c g s lr lc G H B z n = .inr q2 := by
          have := yRun_end (hS.trans f1) (n - (i + 1))
          rw [show i + 1 + (n - (i + 1)) = n by omega] at this
          exact this
        exact Ok.some ⟨nj_p1 _, Or.inr ⟨q2, hE, p1, hX2 q q2 _ _ e2 e7 f1 p2⟩⟩
    · have r5 := e2.1
      rw [r5]
      refine Ok.to (show fX5_runs 0 = some 0 from rfl) ?_
      rw [← r5]
      refine Ok.ite (fun _ => ?_) (fun w => absurd rfl w)
      exact Ok.some (Or.inr ⟨q, e1, e2, e3⟩)
  · obtain ⟨cnt, y1, y2, y3, y4, y5, y6, y7, y8, y9, y10, y11, y12, y13⟩ := y
    obtain ⟨hc, hI⟩ := hI
    have hc : cnt = nI n := hc
    subst hc
    dsimp only at hI ⊢
    refine Ok.ite (fun _ => ?_) (fun w => absurd (Int32.le_refl _) w)
    refine Ok.some ?_
    rcases hI with h1 | h1
    · exact Or.inl h1
    · exact Or.inr h1
def yCp (f o : Nat → Int32) (n : Nat) : Nat → Int32 := fun a => if a < n then f a else o a
theorem yCp_s (f o : Nat → Int32) (n : Nat) : upd (yCp f o n) n (f n) = yCp f o (n + 1) := by
  funext a
  unfold upd yCp
  by_cases h : a = n
  · rw [if_pos h, if_pos (by omega), h]
  · rw [if_neg h]
    exact y_ifc (by omega)
theorem c_copy {o f : Nat → Int32} : fX4_copyFrom o f = some (yCp f o 81) := by
  unfold fX4_copyFrom
  refine bto (wl_eq (fun i => (nI i, yCp f o i)) 0 81 (b := (nI 81, yCp f o 81)) ?_ (by decide) (by decide) (fun i _ hi => ?_) ?_) rfl
  · exact congrArg (Prod.mk (nI 0)) (funext fun a => (if_neg (Nat.not_lt_zero a)).symm)
  · refine (if_neg (fun z => by rw [nj_le (by omega) (by omega)] at z; omega)).trans ?_
    refine (if_neg (fun z => by rw [nj_le (by omega) (by omega)] at z; omega)).trans ?_
    refine (if_pos (nj_in hi (by omega))).trans ?_
    refine (if_pos (nj_in hi (by omega))).trans ?_
    dsimp only
    rw [nj_cl (by omega), yCp_s, nj_p1]
  · exact if_pos (Int32.le_refl _)
theorem yTq_cp {a b : Nat} {f o : Nat → Int32} {G : Nat → Nat → Int32} (h : yTq a b f G) (ha : a ≤ 9) (hb : b ≤ 9) : yTq a b (yCp f o 81) (yTop a G (fun _ _ => 0)) := by
  intro i j hi hj
  have e1 : yCp f o 81 (i * 9 + j) = f (i * 9 + j) := if_pos (by omega)
  have e2 : yTop a G (fun _ _ => 0) i = G i := if_pos hi
  rw [e1, e2]
  exact h i j hi hj
theorem c_begin {r k c g s lr lc : Nat} {f h oa ob wm : Nat → Int32} {G H : Nat → Nat → Int32} {ose : Int32} (J : yJob r k c g s) (hf : yTq r k f G) (hh : yTq k c h H) (hlr : lr < 32) (hlc : lc < 32) : fX5_begin ose oa ob (nI r) (nI k) (nI c) (nI g) (nI s) f h (nI (r + s)) (nI (c + s)) (nI (yJst r k c g G H)) (nI lr) (nI lc) wm = some (nI (ySk k (yIdle g r (yTop r G (fun _ _ => 0)) c (yTop k H (fun _ _ => 0)))), 0, 0, 0, 0, nI (yBf (r + s) (c + s) (yPop lr) (yPop lc) (yJst r k c g G H)), ose + 1, nI r, nI k, nI c, nI g, nI s, yCp f oa 81, yCp h ob 81, nI (r + s), nI (c + s), nI (yJst r k c g G H), nI lr, nI lc, nI (yPop lr), nI (yPop lc), nI (yTl (r + s) (yPop lr)), nI (yTl (c + s) (yPop lc)), nI (yBf (r + s) (c + s) (yPop lr) (yPop lc) (yJst r k c g G H)), yFl wm (yFirst g) 81) := by
  obtain ⟨⟨a1, a2⟩, ⟨a3, a4⟩, ⟨a5, a6⟩, a7, a8⟩ := id J
  have st := yJst_of G H J
  have hs01 : nI s = 0 ∨ nI s = 1 := by
    rcases (show s = 0 ∨ s = 1 by omega) with rfl | rfl
    · exact Or.inl rfl
    · exact Or.inr rfl
  have e1 : fX1_copyFrom oa ob (nI r) (nI k) (nI c) (nI g) (nI s) f h = some (nI r, nI k, nI c, nI g, nI s, yCp f oa 81, yCp h ob 81) := by
    unfold fX1_copyFrom
    refine (if_pos hs01).trans ?_
    refine bto c_copy ?_
    exact bto c_copy rfl
  have e2 : fX2_copyFrom (nI (r + s)) (nI (c + s)) (nI (yJst r k c g G H)) (nI lr) (nI lc) = some (nI (r + s), nI (c + s), nI (yJst r k c g G H), yLy (r + s) (c + s) (yJst r k c g G H) lr lc) := by
    unfold fX2_copyFrom
    exact bto (c_lay (by omega) (by omega) st.1 hlr hlc) rfl
  unfold fX5_begin
  refine bto e1 ?_
  refine bto e2 ?_
  refine bto (c_skipped J (yTq_cp hf (by omega) (by omega)) (yTq_cp hh (by omega) (by omega))) ?_
  refine bto (c_openTile a7) ?_
  rfl
theorem yAll_ext {n : Nat} {p q : Nat → Bool} (h : ∀ i, i < n → p i = q i) : yAll n p = yAll n q := by
  induction n with
  | zero => rfl
  | succ n ih =>
    show (yAll n p && p n) = (yAll n q && q n)
    rw [ih (fun i hi => h i (by omega)), h n (by omega)]
theorem yBits_ext {n : Nat} {p q : Nat → Bool} (h : ∀ i, i < n → p i = q i) : yBits n p = yBits n q := by
  induction n with
  | zero => rfl
  | succ n ih =>
    show yBits n p + (if p n = true then 2 ^ n else 0) = yBits n q + (if q n = true then 2 ^ n else 0)
    rw [ih (fun i hi => h i (by omega)), h n (by omega)]
theorem yJst_cp (r k c g : Nat) (G H : Nat → Nat → Int32) : yJst r k c g (yTop r G (fun _ _ => 0)) (yTop k H (fun _ _ => 0)) = yJst r k c g G H := by
  have e : ∀ t, t < k → yIdle g r (yTop r G (fun _ _ => 0)) c (yTop k H (fun _ _ => 0)) t = yIdle g r G c H t := fun t ht => by
    unfold yIdle
    rw [yAll_ext (n := r) (q := fun i => decide (G i t = 0)) (fun i hi => by
      have e2 : yTop r G (fun _ _ => 0) i = G i := if_pos hi
      rw [e2])]
    have e3 : yTop k H (fun _ _ => 0) t = H t := if_pos ht
    rw [e3]
  unfold yJst ySt ySk
  rw [yBits_ext e]
theorem ySm_grid2 (n w : Nat) (f : Nat → Nat) : ySm (n * w) f = ySm n (fun i => ySm w (fun j => f (i * w + j))) := by
  induction n with
  | zero => rw [Nat.zero_mul]; rfl
  | succ n ih =>
    rw [Nat.succ_mul, ySm_split, ih]
    rfl
theorem yFrom_all {r k c g s lr lc st : Nat} (J : yJob r k c g s) (Y : yLay lr lc) (s1 : 1 ≤ st) : yFrom r c s lr lc st 0 = yBf (r + s) (c + s) (yPop lr) (yPop lc) st := by
  obtain ⟨g1, g2, g3, g4, g5, g6⟩ := yGeo J Y
  rw [← yBf_eq g1.1 g2.1 s1]
  unfold yFrom yBeats
  rw [Nat.sub_zero]
  have hn : yNt r c s lr lc = yTl (r + s) (yPop lr) * yWd c s lc := rfl
  rw [hn, ySm_grid2]
  refine ySm_ext (fun i hi => ?_)
  unfold yRowB
  refine ySm_ext (fun j hj => ?_)
  have hj2 : j < yWd c s lc := hj
  unfold yTb yTr yTc
  rw [Nat.zero_add, Nat.mul_comm i, Nat.mul_add_div g4.1, Nat.div_eq_of_lt hj2, Nat.add_zero, Nat.mul_add_mod, Nat.mod_eq_of_lt hj2]
