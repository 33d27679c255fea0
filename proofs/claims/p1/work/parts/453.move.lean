/-! ===== calls that move the mesh and the work ===== -/
theorem e_noCell {i1 i2 : Int32} : fX9_isNoCell i1 i2 = some (yb !(yIn i1 0 4 && yIn i2 0 4)) := by
  obtain ⟨x, hx, hp⟩ := o_X9_isNoCell (i1 := i1) (i2 := i2)
  rw [hx]
  unfold yIn
  rcases hp with ⟨rfl, a, b⟩ | ⟨rfl, a⟩
  · rw [decide_eq_true a, decide_eq_true b]
    rfl
  · by_cases c1 : 0 ≤ i1.toInt ∧ i1.toInt ≤ 4
    · rw [decide_eq_true c1, decide_eq_false (show ¬ (0 ≤ i2.toInt ∧ i2.toInt ≤ 4) from fun z => a ⟨c1, z⟩)]
      rfl
    · rw [decide_eq_false c1]
      rfl
theorem vp_bo {x : Int32} (h : Bo x) : vp_nar .boolean x = x := by rcases h with rfl | rfl <;> decide
def yBv (B K : Nat → Nat → Int32) (i1 i2 isb : Int32) : Int32 × Int32 × (Nat → Nat → Int32) × (Nat → Nat → Int32) := if (yIn i1 0 4 && yIn i2 0 4) = true then (nI (yCount 5 5 (upg B i1.toNatClampNeg i2.toNatClampNeg isb)), 0, upg B i1.toNatClampNeg i2.toNatClampNeg isb, upg K i1.toNatClampNeg i2.toNatClampNeg (K i1.toNatClampNeg i2.toNatClampNeg &&& isb)) else (0, 1, B, K)
theorem on_of {i1 i2 : Int32} (h : (yIn i1 0 4 && yIn i2 0 4) = true) : ∃ i j, i < 5 ∧ j < 5 ∧ i1 = nI i ∧ i2 = nI j := by
  rw [Bool.and_eq_true] at h
  have e1 := yIn_of h.1
  have e2 := yIn_of h.2
  exact ⟨i1.toInt.toNat, i2.toInt.toNat, by omega, by omega, nj_to (by omega), nj_to (by omega)⟩
theorem e_broken_i {B K : Nat → Nat → Int32} {i1 i2 isb : Int32} (hb : Bo isb) (hK : BG K) : fX9_broken_i B K i1 i2 isb = some (yBv B K i1 i2 isb) := by
  unfold fX9_broken_i yBv
  refine bto e_noCell ?_
  refine bto (e_start_i (by decide)) ?_
  cases e : (yIn i1 0 4 && yIn i2 0 4)
  · rfl
  · obtain ⟨i, j, hi, hj, rfl, rfl⟩ := on_of e
    refine (if_pos rfl).trans ?_
    refine (if_pos (nj_in hi (by omega))).trans ?_
    refine (if_pos (nj_in hj (by omega))).trans ?_
    refine (if_pos (nj_in hi (by omega))).trans ?_
    refine (if_pos (nj_in hj (by omega))).trans ?_
    refine (if_pos (nj_in hj (by omega))).trans ?_
    rw [nj_cl (by omega), nj_cl (by omega), vp_bo hb, vp_bo (yi_and (hK i j) hb)]
    exact bto (e_count_i (by decide) (by decide)) rfl
theorem e_broken_r {B K : Nat → Nat → Int32} {i1 i2 isb : Int32} (hb : Bo isb) (hK : BG K) : fX9_broken_r B K i1 i2 isb = some (yBv B K i1 i2 isb) := by
  unfold fX9_broken_r yBv
  refine bto e_noCell ?_
  refine bto (e_start_r (by decide)) ?_
  cases e : (yIn i1 0 4 && yIn i2 0 4)
  · rfl
  · obtain ⟨i, j, hi, hj, rfl, rfl⟩ := on_of e
    refine (if_pos rfl).trans ?_
    refine (if_pos (nj_in hi (by omega))).trans ?_
    refine (if_pos (nj_in hj (by omega))).trans ?_
    refine (if_pos (nj_in hi (by omega))).trans ?_
    refine (if_pos (nj_in hj (by omega))).trans ?_
    refine (if_pos (nj_in hj (by omega))).trans ?_
    rw [nj_cl (by omega), nj_cl (by omega), vp_bo hb, vp_bo (yi_and (hK i j) hb)]
    exact bto (e_count_r (by decide) (by decide)) rfl
def yA23 (sh : Nat) (m : Nat → Int32) (L : Int64) (k : Nat → Nat) (G : Nat → Nat → Nat → Int32) (v : Int32 × Int32 × (Nat → Nat → Int32) × (Nat → Nat → Int32)) : Int32 × Nat × (Nat → Int32) × Int64 × (Nat → Nat) × (Nat → Nat → Nat → Int32) := (v.1, min sh 2, va_up m 0 v.2.1, L, k, va_up (va_up G 2 v.2.2.1) 3 v.2.2.2)
theorem eM_broken {sh r kk c g s : Nat} {m : Nat → Int32} {L : Int64} {k : Nat → Nat} {G : Nat → Nat → Nat → Int32} {i1 i2 isb : Int32} (hb : Bo isb) (h : yMw sh m k G r kk c g s) : gX9w_broken sh m L k G i1 i2 isb = some (yA23 sh m L k G (yBv (G 2) (G 3) i1 i2 isb)) := by
  obtain ⟨J, hm, b1, b2, q4, q5, hr⟩ := id h
  match sh with
  | 0 =>
    unfold gX9w_broken
    exact bto (e_broken_i hb b2) rfl
  | 1 =>
    unfold gX9w_broken
    exact bto (e_broken_i hb b2) rfl
  | z + 2 =>
    unfold gX9w_broken yA23
    rw [show min (z + 2) 2 = 2 by omega]
    exact bto (e_broken_r hb b2) rfl
theorem aL_broken {n : Nat → Int32} {t : Nat → Nat → Int32} {on : Int64} {B K : Nat → Nat → Int32} {i1 i2 isb : Int32} (hb : Bo isb) (hB : yFlag (n 5) B) (hK : yFlag (n 6) K) (bK : BG K) (hs : ySub B K) : ∃ x, ∃ y : Int32 × Int32, gL_broken n t on i1 i2 isb = some x ∧ x.2.1 = va_up (va_up n 5 y.1) 6 y.2 ∧ x.2.2.1 = t ∧ x.1 = (yBv B K i1 i2 isb).2.1 ∧ ((yBv B K i1 i2 isb).2.1 = 0 → x.2.2.2 = (yBv B K i1 i2 isb).1.toInt64) ∧ yFlag y.1 (yBv B K i1 i2 isb).2.2.1 ∧ yFlag y.2 (yBv B K i1 i2 isb).2.2.2 ∧ ySub (yBv B K i1 i2 isb).2.2.1 (yBv B K i1 i2 isb).2.2.2 := by
  unfold gL_broken fL_broken fX6_broken yBv
  cases e : (yIn i1 0 4 && yIn i2 0 4)
  · have em : fX6_isOnMesh i1 i2 = some (yb false) := by rw [c_onMesh, e]
    exact ⟨_, (n 5, n 6), bto (bto (bto em (if_pos (show yb false = 0 by decide))) rfl) rfl, rfl, rfl, rfl, fun z => absurd z (show ¬ (1 : Int32) = 0 by decide), hB, hK, hs⟩
  · have em : fX6_isOnMesh i1 i2 = some (yb true) := by rw [c_onMesh, e]
    obtain ⟨i, j, hi, hj, rfl, rfl⟩ := on_of e
    rw [if_pos rfl, nj_cl (by omega), nj_cl (by omega)]
    have sub : ySub (upg B i j isb) (upg K i j (K i j &&& isb)) := by
      intro a b ha hb' hz
      unfold upg upd at hz ⊢
      by_cases h1 : a = i
      · rw [if_pos h1] at hz ⊢
        by_cases h2 : b = j
        · rw [if_pos h2] at hz ⊢
          rw [hz, Int32.and_zero]
        · rw [if_neg h2] at hz ⊢
          exact hs i b (by omega) hb' hz
      · rw [if_neg h1] at hz ⊢
        exact hs a b ha hb' hz
    rcases hb with rfl | rfl
    · have f1 := yFlag_off hB hi hj
      have f2 := yFlag_off hK hi hj
      have mk : fX0_mark (n 5) (n 6) (nI i) (nI j) 0 = some (n 5 &&& (((1 : Int32) <<< (nI (i * 5 + j) &&& 31)) ^^^ (-1)), n 6 &&& (((1 : Int32) <<< (nI (i * 5 + j) &&& 31)) ^^^ (-1))) := by
        unfold fX0_mark
        exact bto c_bitOf (if_pos rfl)
      rw [Int32.and_zero] at sub ⊢
      exact ⟨_, (_, _), bto (bto (bto em ((if_neg (show ¬ yb true = 0 by decide)).trans (bto mk (bto (yFlag_count f1) rfl)))) rfl) rfl, rfl, rfl, rfl, fun _ => rfl, f1, f2, sub⟩
    · have f1 := yFlag_on hB hi hj
      have e1 : K i j &&& 1 = K i j := by rcases bK i j with q | q <;> rw [q] <;> decide
      have f2 : yFlag (n 6) (upg K i j (K i j &&& 1)) := yFlag_ext hK (fun a b _ _ => by
        rw [e1]
        unfold upg upd
        by_cases h1 : a = i
        · rw [if_pos h1]
          by_cases h2 : b = j
          · rw [if_pos h2, h1, h2]
          · rw [if_neg h2, h1]
        · rw [if_neg h1])
      have mk : fX0_mark (n 5) (n 6) (nI i) (nI j) 1 = some (n 5 ||| ((1 : Int32) <<< (nI (i * 5 + j) &&& 31)), n 6) := by
        unfold fX0_mark
        exact bto c_bitOf (if_neg (show ¬ (1 : Int32) = 0 by decide))
      exact ⟨_, (_, _), bto (bto (bto em ((if_neg (show ¬ yb true = 0 by decide)).trans (bto mk (bto (yFlag_count f1) rfl)))) rfl) rfl, rfl, rfl, rfl, fun _ => rfl, f1, f2, sub⟩
theorem yRest_flags {W : Nat} {sh sh2 : Nat} {n : Nat → Int32} {t : Nat → Nat → Int32} {m : Nat → Int32} {L : Int64} {k : Nat → Nat} {G : Nat → Nat → Nat → Int32} {x a b : Int32} {B K : Nat → Nat → Int32} (hs : sh2 = min sh 2) (h : yRest W n t sh m L k G) (f1 : yFlag a B) (f2 : yFlag b K) (f3 : ySub B K) : yRest W (va_up (va_up n 5 a) 6 b) t sh2 (va_up m 0 x) L k (va_up (va_up G 2 B) 3 K) := by
  obtain ⟨_, _, _, d, e, f⟩ := h
  subst hs
  refine ⟨f1, f2, f3, d, fun z => ?_, fun z => ?_⟩
  · rw [min2] at z
    obtain ⟨r2, k2, c2, g2, s2, lr, lc, ti, go, w⟩ := e z
    exact ⟨r2, k2, c2, g2, s2, lr, lc, ti, go, w⟩
  · rw [min2] at z
    exact f z
theorem va_self {α : Type} {f : Nat → α} {k : Nat} : va_up f k (f k) = f := by
  funext i
  unfold va_up
  by_cases h : i = k
  · rw [if_pos h, h]
  · rw [if_neg h]
theorem s4_broken {W : Nat} {n : Nat → Int32} {t : Nat → Nat → Int32} {sh : Nat} {m : Nat → Int32} {L : Int64} {k : Nat → Nat} {G : Nat → Nat → Nat → Int32} {on : Int64} {i1 : Int32} {i2 : Int32} {isb : Int32} (h : yR4 W n t sh m L k G) (hb : Bo isb) : ∃ x y, gL_broken n t on i1 i2 isb = some x ∧ gX9w_broken sh m L k G i1 i2 isb = some y ∧ yR4 W x.2.1 x.2.2.1 y.2.1 y.2.2.1 y.2.2.2.1 y.2.2.2.2.1 y.2.2.2.2.2 ∧ y.2.2.1 0 = x.1 ∧ (x.1 = 0 → x.2.2.2 = y.1.toInt64) := by
  obtain ⟨h2, hw⟩ := id h
  obtain ⟨hC, r, kk, c, g, s, hM, hn, h0, h1⟩ := id h2
  obtain ⟨⟨a1, a2⟩, ⟨a3, a4⟩, ⟨a5, a6⟩, a7, a8⟩ := id hM.1
  obtain ⟨x, w, ex, e1, e2, e3, e4, f1, f2, f3⟩ := aL_broken (t := t) (on := on) (i1 := i1) (i2 := i2) hb hw.1 hw.2.1 hM.2.2.2.1 hw.2.2.1
  have ey := eM_broken (L := L) (i1 := i1) (i2 := i2) hb hM
  obtain ⟨x2, y2, ex2, ey2, hR⟩ := sim_broken (L := L) (on := on) (i1 := i1) (i2 := i2) h2 hb
  rw [ex] at ex2
  cases ex2
  rw [ey] at ey2
  cases ey2
  refine ⟨_, _, ex, ey, ⟨hR, ?_⟩, e3.symm, fun z => e4 (e3.symm.trans z)⟩
  rw [e1, e2]
  exact yRest_flags rfl hw f1 f2 f3
def yDf (B K : Nat → Nat → Int32) : Nat → Nat → Int32 := fun i j => if K i j = 0 then B i j else 0
theorem yDf_count {B K : Nat → Nat → Int32} (hs : ySub B K) : yCount 5 5 (yDf B K) + yCount 5 5 K = yCount 5 5 B := by
  unfold yCount
  rw [← ySm_add]
  refine ySm_ext (fun i hi => ?_)
  rw [← ySm_add]
  refine ySm_ext (fun j hj => ?_)
  unfold yDf yN
  by_cases h : K i j = 0
  · rw [if_pos h, if_pos h, Nat.add_zero]
  · rw [if_neg h, if_neg h, if_neg (fun z => h (hs i j hi hj z)), if_pos rfl]
theorem yFlag_df {wb wk : Int32} {B K : Nat → Nat → Int32} (hB : yFlag wb B) (hK : yFlag wk K) : yFlag (wb &&& (wk ^^^ (-1))) (yDf B K) := by
  intro q hq
  rw [yBB_and, yBB_not _ _ hq, hB q hq, hK q hq]
  unfold yDf
  by_cases c : q < 25
  · rw [decide_eq_true c, Bool.true_and, Bool.true_and, Bool.true_and]
    by_cases h : K (q / 5) (q % 5) = 0
    · rw [if_pos h, decide_eq_true h]
      simp
    · rw [if_neg h, decide_eq_false h]
      simp
  · rw [decide_eq_false c, Bool.false_and, Bool.false_and, Bool.false_and]
theorem aL_test_i {n : Nat → Int32} {t : Nat → Nat → Int32} {on : Int64} {B K : Nat → Nat → Int32} (hB : yFlag (n 5) B) (hK : yFlag (n 6) K) (h : n 15 = 0) : gL_test n t on = some (0, va_up n 6 (n 5), t, (nI (yCount 5 5 (yDf B K))).toInt64) := by
  unfold gL_test fL_test fX6_test
  rw [h]
  have e : fX0_findBroken (n 5) (n 6) = some (nI (yCount 5 5 (yDf B K)), n 5) := by
    unfold fX0_findBroken
    exact bto (yFlag_count (yFlag_df hB hK)) rfl
  exact bto (bto (bto (show fX5_runs 0 = some 0 from rfl) ((if_pos rfl).trans (bto e rfl))) rfl) rfl
theorem aL_test_r {n : Nat → Int32} {t : Nat → Nat → Int32} {on : Int64} (h : fX5_runs (n 15) = some (yb true)) : gL_test n t on = some (1, va_up n 6 (n 6), t, on) := by
  unfold gL_test fL_test fX6_test
  exact bto (bto (bto h (if_neg (show ¬ yb true = 0 by decide))) rfl) rfl
theorem eM_test_i {r kk c g s : Nat} {m : Nat → Int32} {L : Int64} {k : Nat → Nat} {G : Nat → Nat → Nat → Int32} (sh : Nat) (hs : ¬ 2 ≤ sh) (h : yMw sh m k G r kk c g s) : gX9w_test sh m L k G = some (nI (yCount 5 5 (G 2)) - nI (yCount 5 5 (G 3)), min sh 2, va_up m 0 0, L, k, va_up G 3 (yTop 5 (G 2) (G 3))) := by
  match sh with
  | 0 =>
    unfold gX9w_test
    exact bto (e_test h.2.2.1) rfl
  | 1 =>
    unfold gX9w_test
    exact bto (e_test h.2.2.1) rfl
  | z + 2 => exact absurd (by omega) hs
theorem eM_test_r {m : Nat → Int32} {L : Int64} {k : Nat → Nat} {G : Nat → Nat → Nat → Int32} (sh : Nat) (hs : 2 ≤ sh) : gX9w_test sh m L k G = some (0, min sh 2, va_up m 0 1, L, k, G) := by
  match sh with
  | 0 => exact absurd hs (by decide)
  | 1 => exact absurd hs (by decide)
  | z + 2 =>
    unfold gX9w_test
    rw [show min (z + 2) 2 = 2 by omega]
    rfl
theorem s4_test {W : Nat} {n : Nat → Int32} {t : Nat → Nat → Int32} {sh : Nat} {m : Nat → Int32} {L : Int64} {k : Nat → Nat} {G : Nat → Nat → Nat → Int32} {on : Int64}  (h : yR4 W n t sh m L k G) : ∃ x y, gL_test n t on  = some x ∧ gX9w_test sh m L k G  = some y ∧ yR4 W x.2.1 x.2.2.1 y.2.1 y.2.2.1 y.2.2.2.1 y.2.2.2.2.1 y.2.2.2.2.2 ∧ y.2.2.1 0 = x.1 ∧ (x.1 = 0 → x.2.2.2 = y.1.toInt64) := by
  obtain ⟨h2, hw⟩ := id h
  obtain ⟨hC, r, kk, c, g, s, hM, hn, h0, h1⟩ := id h2
  obtain ⟨⟨a1, a2⟩, ⟨a3, a4⟩, ⟨a5, a6⟩, a7, a8⟩ := id hM.1
  obtain ⟨x2, y2, ex2, ey2, hR⟩ := sim_test (L := L) (on := on) h2
  by_cases hs : 2 ≤ sh
  · obtain ⟨r2, k2, c2, g2, s2, lr, lc, ti, go, hr', e19, f5, f6, e10, e24, hC', z7, z8, z4, z5, zX⟩ := hw.2.2.2.2.1 hs
    have ff := yFrom_step (st := yJst r2 k2 c2 g2 (G 8) (G 9)) hr'.2.2.2.2.2.1
    have fl := yFrom_le (ti := ti) (st := yJst r2 k2 c2 g2 (G 8) (G 9)) hr'.1 hr'.2.1 (yJst_of (G 8) (G 9) hr'.1).1 (by have := (yJst_of (G 8) (G 9) hr'.1).2; have := hr'.1.2.1.2; omega)
    have hgo := hr'.2.2.2.2.2.2.1
    have runs : fX5_runs (n 15) = some (yb true) := by
      rw [hC'.2.2.2.2.1]
      refine (c_runs (by dsimp only; omega)).trans ?_
      rw [beq_false_of_ne (show yFrom r2 c2 s2 lr lc (yJst r2 k2 c2 g2 (G 8) (G 9)) ti - go ≠ 0 by omega)]
      rfl
    have ex := aL_test_r (t := t) (on := on) runs
    have ey := eM_test_r (m := m) (L := L) (k := k) (G := G) sh hs
    rw [va_self] at ex
    rw [ex] at ex2
    cases ex2
    rw [ey] at ey2
    cases ey2
    exact ⟨_, _, ex, ey, ⟨hR, yRest_congr ⟨fun _ _ _ => rfl, fun _ _ => rfl⟩ ⟨rfl, fun i z1 z2 => va_ne (by omega), fun i z1 => va_ne (by omega), rfl, fun _ _ => rfl, fun _ _ => rfl⟩ hw⟩, rfl, fun z => absurd z (show ¬ (1 : Int32) = 0 by decide)⟩
  · have hi := hw.2.2.2.2.2 hs
    have ex := aL_test_i (t := t) (on := on) hw.1 hw.2.1 hi.1
    have ey := eM_test_i (L := L) sh hs hM
    rw [ex] at ex2
    cases ex2
    rw [ey] at ey2
    cases ey2
    refine ⟨_, _, ex, ey, ⟨hR, ?_⟩, rfl, fun _ => ?_⟩
    · refine ⟨hw.1, yFlag_ext hw.1 (fun i j hi' _ => congrFun (show yTop 5 (G 2) (G 3) i = G 2 i from if_pos hi') j), fun i j hi' hj z => (congrFun (show yTop 5 (G 2) (G 3) i = G 2 i from if_pos hi') j).trans z, hw.2.2.2.1, fun z => ?_, fun z => hi⟩
      exact absurd z (by rw [show (2 ≤ min sh 2) = (2 ≤ sh) from min2]; exact hs)
    · have cd := yDf_count hw.2.2.1
      have cl := yCount_le 5 5 (G 2)
      show (nI (yCount 5 5 (yDf (G 2) (G 3)))).toInt64 = (nI (yCount 5 5 (G 2)) - nI (yCount 5 5 (G 3))).toInt64
      rw [nj_sub (by omega), show yCount 5 5 (yDf (G 2) (G 3)) = yCount 5 5 (G 2) - yCount 5 5 (G 3) by omega]
theorem yBeg {n : Nat → Int32} {t : Nat → Nat → Int32} {on : Int64} {r kk c g s : Nat} {G H K : Nat → Nat → Int32} (J : yJob r kk c g s) (hn : n 0 = nI r ∧ n 1 = nI kk ∧ n 2 = nI c ∧ n 3 = nI g ∧ n 4 = nI s) (hf : yTq r kk (t 0) G) (hh : yTq kk c (t 1) H) (hK : yFlag (n 6) K) (h15 : n 15 = 0) (hz : ¬ (yJb r kk c g s G H K).2.1 = 0) : ∃ x, gL_start n t on = some x ∧ x.1 = 0 ∧ x.2.2.2 = (nI (yBf (r + s) (c + s) (yPop (yJb r kk c g s G H K).2.1) (yPop (yJb r kk c g s G H K).2.2) (yJst r kk c g G H))).toInt64 ∧ x.2.1 5 = n 5 ∧ x.2.1 6 = n 6 ∧ x.2.1 7 = 0 ∧ x.2.1 8 = 0 ∧ x.2.1 10 = nI (ySk kk (yIdle g r (yTop r G (fun _ _ => 0)) c (yTop kk H (fun _ _ => 0)))) ∧ (x.2.1 11 = 0 ∧ x.2.1 12 = 0 ∧ x.2.1 13 = 0 ∧ x.2.1 14 = 0 ∧ x.2.1 15 = nI (yBf (r + s) (c + s) (yPop (yJb r kk c g s G H K).2.1) (yPop (yJb r kk c g s G H K).2.2) (yJst r kk c g G H)) ∧ x.2.1 16 = n 16 ∧ x.2.1 17 = n 17 + 1 ∧ x.2.1 18 = n 18) ∧ (x.2.1 19 = nI r ∧ x.2.1 20 = nI kk ∧ x.2.1 21 = nI c ∧ x.2.1 22 = nI g ∧ x.2.1 23 = nI s) ∧ (x.2.1 24 = nI (r + s) ∧ x.2.1 25 = nI (c + s) ∧ x.2.1 26 = nI (yJst r kk c g G H) ∧ x.2.1 27 = nI (yJb r kk c g s G H K).2.1 ∧ x.2.1 28 = nI (yJb r kk c g s G H K).2.2 ∧ x.2.1 29 = nI (yPop (yJb r kk c g s G H K).2.1) ∧ x.2.1 30 = nI (yPop (yJb r kk c g s G H K).2.2) ∧ x.2.1 31 = nI (yTl (r + s) (yPop (yJb r kk c g s G H K).2.1)) ∧ x.2.1 32 = nI (yTl (c + s) (yPop (yJb r kk c g s G H K).2.2))) ∧ x.2.2.1 2 = t 2 ∧ x.2.2.1 3 = yFl (t 3) (yFirst g) 81 ∧ x.2.2.1 4 = t 4 ∧ x.2.2.1 5 = yCp (t 0) (t 5) 81 ∧ x.2.2.1 6 = yCp (t 1) (t 6) 81 := by
  obtain ⟨h0, h1, h2, h3, h4⟩ := hn
  obtain ⟨⟨a1, a2⟩, ⟨a3, a4⟩, ⟨a5, a6⟩, a7, a8⟩ := id J
  have st := yJst_of G H J
  have Y := yJb_lay J hz
  unfold gL_start fL_start fX6_start
  simp only [h0, h1, h2, h3, h4, h15]
  obtain ⟨o6, e6, p0, p1, p2, p3, p4⟩ := c_findBest (x3 := n 47) (x4 := n 48) (x5 := n 49) (x6 := n 50) (x7 := n 51) (x8 := n 52) (x9 := n 53) J hf hh hK
  obtain ⟨o1, o2, o3, o4, o5, o7, o8, o9, o10, o11, ot⟩ := o6
  dsimp only at p1 p2 p3 p4
  unfold yLy at p4
  cases p4
  subst p1 p2 p3
  have ee : fX2_isEmpty (nI (yJb r kk c g s G H K).2.1) (nI (yJb r kk c g s G H K).2.2) = some (yb false) := by
    refine (c_empty Y.1.2 Y.2.2).trans ?_
    rw [beq_false_of_ne (show (yJb r kk c g s G H K).2.1 ≠ 0 from hz), beq_false_of_ne (show (yJb r kk c g s G H K).2.2 ≠ 0 by have := Y.2.1; omega)]
    rfl
  have eb := c_begin (ose := n 17) (oa := t 5) (ob := t 6) (wm := t 3) J hf hh Y.1.2 Y.2.2
  exact ⟨_, bto (bto (bto (show fX5_runs 0 = some 0 from rfl) ((if_pos rfl).trans (bto e6 (bto ee ((if_pos (show yb false = 0 by decide)).trans (bto eb (bto (show fX3_clear = some (0, 0, 0) from rfl) rfl))))))) rfl) rfl, rfl, rfl, rfl, rfl, rfl, rfl, rfl, ⟨rfl, rfl, rfl, rfl, rfl, rfl, rfl, rfl⟩, ⟨rfl, rfl, rfl, rfl, rfl⟩, ⟨rfl, rfl, rfl, rfl, rfl, rfl, rfl, rfl, rfl⟩, rfl, rfl, rfl, rfl, rfl⟩
theorem aL_start_no {n : Nat → Int32} {t : Nat → Nat → Int32} {on : Int64} {r kk c g s : Nat} {G H K : Nat → Nat → Int32} (J : yJob r kk c g s) (hn : n 0 = nI r ∧ n 1 = nI kk ∧ n 2 = nI c ∧ n 3 = nI g ∧ n 4 = nI s) (hf : yTq r kk (t 0) G) (hh : yTq kk c (t 1) H) (hK : yFlag (n 6) K) (h15 : n 15 = 0) (hz : (yJb r kk c g s G H K).2.1 = 0) : ∃ x, gL_start n t on = some x ∧ x.1 = 1 ∧ yFC n x.2.1 t x.2.2.1 := by
  obtain ⟨h0, h1, h2, h3, h4⟩ := hn
  unfold gL_start fL_start fX6_start
  simp only [h0, h1, h2, h3, h4, h15]
  obtain ⟨o6, e6, p0, p1, p2, p3, p4⟩ := c_findBest (x3 := n 47) (x4 := n 48) (x5 := n 49) (x6 := n 50) (x7 := n 51) (x8 := n 52) (x9 := n 53) J hf hh hK
  obtain ⟨o1, o2, o3, o4, o5, o7, o8, o9, o10, o11, ot⟩ := o6
  dsimp only at p1 p2 p3 p4
  unfold yLy at p4
  cases p4
  subst p1 p2 p3
  have ee : fX2_isEmpty (nI (yJb r kk c g s G H K).2.1) (nI (yJb r kk c g s G H K).2.2) = some (yb true) := by
    rcases p0 with ⟨z1, z2⟩ | ⟨z1, z2, z3, z4, z5⟩
    · rw [z1, z2]
      rfl
    · omega
  refine ⟨_, bto (bto (bto (show fX5_runs 0 = some 0 from rfl) ((if_pos rfl).trans (bto e6 (bto ee (if_neg (show ¬ yb true = 0 by decide)))))) rfl) rfl, rfl, fun i z1 z2 => ?_, fun i z1 => ?_⟩
  · rcases (show i = 5 ∨ i = 6 ∨ i = 7 ∨ i = 8 ∨ i = 9 ∨ i = 10 ∨ i = 11 ∨ i = 12 ∨ i = 13 ∨ i = 14 ∨ i = 15 ∨ i = 16 ∨ i = 17 ∨ i = 18 ∨ i = 19 ∨ i = 20 ∨ i = 21 ∨ i = 22 ∨ i = 23 ∨ i = 24 ∨ i = 25 ∨ i = 26 ∨ i = 27 ∨ i = 28 ∨ i = 29 ∨ i = 30 ∨ i = 31 ∨ i = 32 ∨ i = 33 by omega) with rfl | rfl | rfl | rfl | rfl | rfl | rfl | rfl | rfl | rfl | rfl | rfl | rfl | rfl | rfl | rfl | rfl | rfl | rfl | rfl | rfl | rfl | rfl | rfl | rfl | rfl | rfl | rfl | rfl <;> first | rfl | exact h15.symm
  · dsimp only
    try (simp only [va_self])
theorem aL_start_r {n : Nat → Int32} {t : Nat → Nat → Int32} {on : Int64} (h : fX5_runs (n 15) = some (yb true)) : ∃ x, gL_start n t on = some x ∧ x.1 = 1 ∧ yFC n x.2.1 t x.2.2.1 := by
  unfold gL_start fL_start fX6_start
  refine ⟨_, bto (bto (bto h (if_neg (show ¬ yb true = 0 by decide))) rfl) rfl, rfl, fun i z1 z2 => ?_, fun i z1 => ?_⟩
  · dsimp only
    try (simp only [va_self])
  · dsimp only
    try (simp only [va_self])
theorem eM_begin_no {r kk c g s : Nat} {m : Nat → Int32} {L : Int64} {k : Nat → Nat} {G : Nat → Nat → Nat → Int32} (sh : Nat) (hs : ¬ 2 ≤ sh) (h : yMw sh m k G r kk c g s) (hz : (yJb r kk c g s (G 0) (G 1) (G 3)).2.1 = 0) : gX9w_begin sh m L k G = some (0, min sh 2, va_up m 0 1, L, k, G) := by
  obtain ⟨J, ⟨h8, h9, h10, h11, h12, q0, q1, q2, q3⟩, b1, b2, q4, q5, hr⟩ := id h
  have e := e_begin_i (wo := m 2) (S := G 5) (G := G 0) (H := G 1) (K := G 3) J
  rw [if_pos hz] at e
  match sh with
  | 0 =>
    unfold gX9w_begin
    dsimp only
    simp only [h8, h9, h10, h11, h12, q0, q1, q2, q3]
    exact bto e rfl
  | 1 =>
    unfold gX9w_begin
    dsimp only
    simp only [h8, h9, h10, h11, h12, q0, q1, q2, q3]
    exact bto e rfl
  | z + 2 => exact absurd (by omega) hs
theorem eM_begin_r {m : Nat → Int32} {L : Int64} {k : Nat → Nat} {G : Nat → Nat → Nat → Int32} (sh : Nat) (hs : 2 ≤ sh) : gX9w_begin sh m L k G = some (0, min sh 2, va_up m 0 1, L, k, G) := by
  match sh with
  | 0 => exact absurd hs (by decide)
  | 1 => exact absurd hs (by decide)
  | z + 2 =>
    unfold gX9w_begin
    rw [show min (z + 2) 2 = 2 by omega]
    rfl
theorem eM_begin {r kk c g s : Nat} {m : Nat → Int32} {L : Int64} {k : Nat → Nat} {G : Nat → Nat → Nat → Int32} (sh : Nat) (hs : ¬ 2 ≤ sh) (h : yMw sh m k G r kk c g s) (hz : ¬ (yJb r kk c g s (G 0) (G 1) (G 3)).2.1 = 0) : ∃ y, gX9w_begin sh m L k G = some y ∧ y.1 = nI (yFrom r c s (yJb r kk c g s (G 0) (G 1) (G 3)).2.1 (yJb r kk c g s (G 0) (G 1) (G 3)).2.2 (yJst r kk c g (G 0) (G 1)) 0) ∧ y.2.1 = 2 ∧ (y.2.2.1 0 = 0 ∧ y.2.2.1 1 = m 1 ∧ y.2.2.1 2 = m 2 + 1 ∧ y.2.2.1 3 = nI (yJb r kk c g s (G 0) (G 1) (G 3)).2.1 ∧ y.2.2.1 4 = nI (yJb r kk c g s (G 0) (G 1) (G 3)).2.2 ∧ y.2.2.1 5 = 0 ∧ y.2.2.1 6 = 0) ∧ (y.2.2.1 13 = nI r ∧ y.2.2.1 14 = nI kk ∧ y.2.2.1 15 = nI c ∧ y.2.2.1 16 = nI g ∧ y.2.2.1 17 = nI s) ∧ y.2.2.2.1 = L ∧ (y.2.2.2.2.1 4 = 0 ∧ y.2.2.2.2.1 5 = 0) ∧ (y.2.2.2.2.1 8 = r ∧ y.2.2.2.2.1 9 = kk ∧ y.2.2.2.2.1 10 = kk ∧ y.2.2.2.2.1 11 = c) ∧ (y.2.2.2.2.2 2 = G 2 ∧ y.2.2.2.2.2 3 = G 3 ∧ y.2.2.2.2.2 4 = G 4 ∧ y.2.2.2.2.2 5 = yFill g (G 5) ∧ y.2.2.2.2.2 8 = yTop r (G 0) (fun _ _ => 0) ∧ y.2.2.2.2.2 9 = yTop kk (G 1) (fun _ _ => 0)) := by
  obtain ⟨J, ⟨h8, h9, h10, h11, h12, q0, q1, q2, q3⟩, b1, b2, q4, q5, hr⟩ := id h
  have e := e_begin_i (wo := m 2) (S := G 5) (G := G 0) (H := G 1) (K := G 3) J
  rw [if_neg hz, yJst_cp] at e
  match sh with
  | 0 =>
    unfold gX9w_begin
    dsimp only
    simp only [h8, h9, h10, h11, h12, q0, q1, q2, q3]
    exact ⟨_, bto e rfl, rfl, rfl, ⟨rfl, rfl, rfl, rfl, rfl, rfl, rfl⟩, ⟨rfl, rfl, rfl, rfl, rfl⟩, rfl, ⟨rfl, rfl⟩, ⟨rfl, rfl, rfl, rfl⟩, rfl, rfl, rfl, rfl, rfl, rfl⟩
  | 1 =>
    unfold gX9w_begin
    dsimp only
    simp only [h8, h9, h10, h11, h12, q0, q1, q2, q3]
    exact ⟨_, bto e rfl, rfl, rfl, ⟨rfl, rfl, rfl, rfl, rfl, rfl, rfl⟩, ⟨rfl, rfl, rfl, rfl, rfl⟩, rfl, ⟨rfl, rfl⟩, ⟨rfl, rfl, rfl, rfl⟩, rfl, rfl, rfl, rfl, rfl, rfl⟩
  | z + 2 => exact absurd (by omega) hs
theorem s4_start {W : Nat} {n : Nat → Int32} {t : Nat → Nat → Int32} {sh : Nat} {m : Nat → Int32} {L : Int64} {k : Nat → Nat} {G : Nat → Nat → Nat → Int32} {on : Int64}  (h : yR4 W n t sh m L k G) : ∃ x y, gL_start n t on  = some x ∧ gX9w_begin sh m L k G  = some y ∧ yR4 (W + 2000) x.2.1 x.2.2.1 y.2.1 y.2.2.1 y.2.2.2.1 y.2.2.2.2.1 y.2.2.2.2.2 ∧ y.2.2.1 0 = x.1 ∧ (x.1 = 0 → x.2.2.2 = y.1.toInt64) := by
  obtain ⟨h2, hw⟩ := id h
  obtain ⟨hC, r, kk, c, g, s, hM, hn, h0, h1⟩ := id h2
  obtain ⟨⟨a1, a2⟩, ⟨a3, a4⟩, ⟨a5, a6⟩, a7, a8⟩ := id hM.1
  obtain ⟨x2, y2, ex2, ey2, hR⟩ := sim_start (L := L) (on := on) h2
  by_cases hs : 2 ≤ sh
  · obtain ⟨r2, k2, c2, g2, s2, lr, lc, ti, go, hr', e19, f5, f6, e10, e24, hC', z7, z8, z4, z5, zX⟩ := hw.2.2.2.2.1 hs
    have ff := yFrom_step (st := yJst r2 k2 c2 g2 (G 8) (G 9)) hr'.2.2.2.2.2.1
    have fl := yFrom_le (ti := ti) (st := yJst r2 k2 c2 g2 (G 8) (G 9)) hr'.1 hr'.2.1 (yJst_of (G 8) (G 9) hr'.1).1 (by have := (yJst_of (G 8) (G 9) hr'.1).2; have := hr'.1.2.1.2; omega)
    have hgo := hr'.2.2.2.2.2.2.1
    have runs : fX5_runs (n 15) = some (yb true) := by
      rw [hC'.2.2.2.2.1]
      refine (c_runs (by dsimp only; omega)).trans ?_
      rw [beq_false_of_ne (show yFrom r2 c2 s2 lr lc (yJst r2 k2 c2 g2 (G 8) (G 9)) ti - go ≠ 0 by omega)]
      rfl
    obtain ⟨x, ex, e1, e2⟩ := aL_start_r (t := t) (on := on) runs
    have ey := eM_begin_r (m := m) (L := L) (k := k) (G := G) sh hs
    rw [ex] at ex2
    cases ex2
    rw [ey] at ey2
    cases ey2
    exact ⟨_, _, ex, ey, ⟨hR, yRest_mono (yRest_congr e2 ⟨rfl, fun i z1 z2 => va_ne (by omega), fun i z1 => va_ne (by omega), rfl, fun _ _ => rfl, fun _ _ => rfl⟩ hw) (Nat.le_add_right _ _)⟩, e1.symm, fun z => absurd (e1.symm.trans z) (show ¬ (1 : Int32) = 0 by decide)⟩
  · have hi := hw.2.2.2.2.2 hs
    by_cases hz : (yJb r kk c g s (G 0) (G 1) (G 3)).2.1 = 0
    · obtain ⟨x, ex, e1, e2⟩ := aL_start_no (on := on) hM.1 hn (h0.q (by omega) (by omega)) (h1.q (by omega) (by omega)) hw.2.1 hi.1 hz
      have ey := eM_begin_no (L := L) sh hs hM hz
      rw [ex] at ex2
      cases ex2
      rw [ey] at ey2
      cases ey2
      exact ⟨_, _, ex, ey, ⟨hR, yRest_mono (yRest_congr e2 ⟨rfl, fun i z1 z2 => va_ne (by omega), fun i z1 => va_ne (by omega), rfl, fun _ _ => rfl, fun _ _ => rfl⟩ hw) (Nat.le_add_right _ _)⟩, e1.symm, fun z => absurd (e1.symm.trans z) (show ¬ (1 : Int32) = 0 by decide)⟩
    · have J := hM.1
      have Y := yJb_lay J hz
      have gg := yGeo J Y
      have stt := yJst_of (G 0) (G 1) J
      have tb := yTb_of (ti := 0) J Y (by omega) stt.1 (by omega)
      have fa := yFrom_all J Y stt.1
      obtain ⟨x, ex, d1, d2, d5, d6, d7, d8, d10, ⟨d11, d12, d13, d14, d15, d16, d17, d18⟩, d19, d24, u2, u3, u4, u5, u6⟩ := yBeg (on := on) J hn (h0.q (by omega) (by omega)) (h1.q (by omega) (by omega)) hw.2.1 hi.1 hz
      obtain ⟨y, ey, v1, v2, ⟨m0, m1, m2, m3, m4, m5, m6⟩, ⟨m13, m14, m15, m16, m17⟩, vL, ⟨k4, k5⟩, ⟨k8, k9, k10, k11⟩, g2, g3, g4, g5, g8, g9⟩ := eM_begin (L := L) sh hs hM hz
      rw [ex] at ex2
      cases ex2
      rw [ey] at ey2
      cases ey2
      refine ⟨_, _, ex, ey, ⟨hR, ?_⟩, m0.trans d1.symm, fun _ => ?_⟩
      · have hcp := yJst_cp r kk c g (G 0) (G 1)
        refine ⟨?_, ?_, ?_, ?_, fun _ => ?_, fun z => absurd (by rw [v2]; exact Nat.le_refl 2) z⟩
        · rw [d5, g2]
          exact hw.1
        · rw [d6, g3]
          exact hw.2.1
        · rw [g2, g3]
          exact hw.2.2.1
        · rw [d17, m2, hw.2.2.2.1]
        · refine ⟨r, kk, c, g, s, (yJb r kk c g s (G 0) (G 1) (G 3)).2.1, (yJb r kk c g s (G 0) (G 1) (G 3)).2.2, 0, 0, ⟨J, Y, ⟨m13, m14, m15, m16, m17⟩, ⟨m3, m4, m5, m6⟩, ⟨k8, k9, k10, k11⟩, by omega, ?_, Or.inl rfl⟩, d19, ?_, ?_, ?_, ?_, ?_, d7, d8, k4, k5, ?_⟩
          · rw [g8, g9, hcp]
            omega
          · rw [u5, g8]
            exact yTq_cp (h0.q (by omega) (by omega)) (by omega) (by omega)
          · rw [u6, g9]
            exact yTq_cp (h1.q (by omega) (by omega)) (by omega) (by omega)
          · rw [d10, g8, g9]
          · rw [g8, g9, hcp]
            exact d24
          · refine ⟨d11, ?_, ?_, d14, ?_, ?_, ?_, ?_, ?_⟩
            · rw [d12]
              dsimp only
              rw [Nat.zero_div, Nat.zero_mul]
              rfl
            · rw [d13]
              dsimp only
              rw [Nat.zero_mod, Nat.zero_mul]
              rfl
            · rw [d15]
              dsimp only
              rw [g8, g9, hcp, fa, Nat.sub_zero]
            · rw [d16]
              dsimp only
              rw [m1, hi.2.1]
            · rw [u2]
              dsimp only
              rw [g4]
              exact hi.2.2.1
            · rw [u3]
              dsimp only
              rw [g5]
              exact yT5_fill
            · intro a b _ _ hq
              exact absurd hq.2.2 (Nat.not_lt_zero _)
          · rw [m1, vL, g4, d18, g8, g9, hcp]
            exact yX_0 J Y stt.1 (by omega) hi.2.2.2.2.2.2.2.2.2
      · rw [d2, v1, fa]
theorem aL_beat_no {n : Nat → Int32} {t : Nat → Nat → Int32} {on : Int64} {i1 : Int32} (h : ¬ yIn i1 1 300 = true) : ∃ x, gL_beat n t on i1 = some x ∧ x.1 = 1 ∧ yFC n x.2.1 t x.2.2.1 := by
  have l300 : Int32.toInt 300 = 300 := by decide
  have e : fX6_beat (n 10) (n 11) (n 12) (n 13) (n 14) (n 15) (n 16) (n 18) (n 19) (n 21) (n 22) (n 23) (t 5) (t 6) (n 24) (n 25) (n 26) (n 27) (n 28) (n 29) (n 30) (n 5) (t 2) (t 3) (n 7) (n 8) (n 9) (t 4) i1 = some (.inl 0) := by
    unfold fX6_beat
    by_cases c1 : i1 < 1
    · exact if_pos c1
    · refine (if_neg c1).trans ?_
      exact if_neg (fun z => h (by
        rw [yi_lt, yI1] at c1
        rw [yi_le, l300] at z
        exact decide_eq_true (by omega)))
  unfold gL_beat fL_beat
  refine ⟨_, bto (bto e rfl) rfl, rfl, fun i z1 z2 => ?_, fun i z1 => ?_⟩
  · dsimp only
    try (simp only [va_self])
  · dsimp only
    try (simp only [va_self])
theorem aL_beat_i {n : Nat → Int32} {t : Nat → Nat → Int32} {on : Int64} {i1 : Int32} (h : yIn i1 1 300 = true) (h15 : n 15 = 0) : ∃ x, gL_beat n t on i1 = some x ∧ x.1 = 2 ∧ yFC n x.2.1 t x.2.2.1 := by
  have l300 : Int32.toInt 300 = 300 := by decide
  have hv := yIn_of h
  have e : fX6_beat (n 10) (n 11) (n 12) (n 13) (n 14) (n 15) (n 16) (n 18) (n 19) (n 21) (n 22) (n 23) (t 5) (t 6) (n 24) (n 25) (n 26) (n 27) (n 28) (n 29) (n 30) (n 5) (t 2) (t 3) (n 7) (n 8) (n 9) (t 4) i1 = some (.inl 2) := by
    unfold fX6_beat
    rw [h15]
    refine (if_neg (fun z => by rw [yi_lt, yI1] at z; omega)).trans ?_
    refine (if_pos (by rw [yi_le, l300]; omega)).trans ?_
    rfl
  unfold gL_beat fL_beat
  refine ⟨_, bto (bto e rfl) rfl, rfl, fun i z1 z2 => ?_, fun i z1 => ?_⟩
  · dsimp only
    try (simp only [va_self])
  · dsimp only
    try (simp only [va_self])
theorem eM_beat_i {m : Nat → Int32} {L : Int64} {k : Nat → Nat} {G : Nat → Nat → Nat → Int32} {i1 : Int32} (sh : Nat) (hs : ¬ 2 ≤ sh) : gX9w_beat sh m L k G i1 = some (0, min sh 2, va_up m 0 (if yIn i1 1 300 = true then 2 else 1), L, k, G) := by
  match sh with
  | 0 =>
    unfold gX9w_beat
    exact bto e_beat_i rfl
  | 1 =>
    unfold gX9w_beat
    exact bto e_beat_i rfl
  | z + 2 => exact absurd (by omega) hs
theorem s4_beat {W : Nat} {n : Nat → Int32} {t : Nat → Nat → Int32} {sh : Nat} {m : Nat → Int32} {L : Int64} {k : Nat → Nat} {G : Nat → Nat → Nat → Int32} {on : Int64} {i1 : Int32} (h : yR4 W n t sh m L k G) : ∃ x y, gL_beat n t on i1 = some x ∧ gX9w_beat sh m L k G i1 = some y ∧ yR4 W x.2.1 x.2.2.1 y.2.1 y.2.2.1 y.2.2.2.1 y.2.2.2.2.1 y.2.2.2.2.2 ∧ y.2.2.1 0 = x.1 ∧ (x.1 = 0 → x.2.2.2 = y.1.toInt64) := by
  obtain ⟨h2, hw⟩ := id h
  obtain ⟨hC, r, kk, c, g, s, hM, hn, h0, h1⟩ := id h2
  obtain ⟨⟨a1, a2⟩, ⟨a3, a4⟩, ⟨a5, a6⟩, a7, a8⟩ := id hM.1
  obtain ⟨x2, y2, ex2, ey2, hR⟩ := sim_beat (L := L) (on := on) (i1 := i1) h2
  by_cases hs : 2 ≤ sh
  · obtain ⟨r2, k2, c2, g2, s2, lr, lc, ti, go, hr', ⟨e19, e20, e21, e22, e23⟩, f5, f6, e10, ⟨e24, e25, e26, e27, e28, e29, e30, e31, e32⟩, hC', z7, z8, z4, z5, zX⟩ := hw.2.2.2.2.1 hs
    obtain ⟨J2, Y, ⟨h13, h14, h15, h16, h17⟩, ⟨h3, h4, h5, h6⟩, ⟨q8, q9, q10, q11⟩, ht, hg, hD⟩ := id hr'
    have hz : yRI r2 k2 c2 g2 s2 lr lc (yJst r2 k2 c2 g2 (G 8) (G 9)) (m 1, L, ti, go, G 4, G 5, k 6, k 7, G 7) := ⟨ht, hg, hD⟩
    obtain ⟨o, eo, ho⟩ := e_beat (i1 := i1) (B := G 2) J2 Y hz
    have ey : gX9w_beat sh m L k G i1 = (ybr o (fun w => some (w.1, 2, va_up (va_up (va_up (va_up m 0 w.2.1) 1 w.2.2.1) 5 w.2.2.2.2.1) 6 w.2.2.2.2.2.1, w.2.2.2.1, va_up (va_up k 6 w.2.2.2.2.2.2.2.2.1) 7 w.2.2.2.2.2.2.2.2.2.1, va_up (va_up (va_up G 4 w.2.2.2.2.2.2.1) 5 w.2.2.2.2.2.2.2.1) 7 w.2.2.2.2.2.2.2.2.2.2)) (fun w => some (w.1, 1, va_up (va_up (va_up (va_up (va_up m 0 w.2.1) 1 w.2.2.1) 5 w.2.2.2.2.1) 6 w.2.2.2.2.2.1) 7 w.2.2.2.2.2.2.1, w.2.2.2.1, va_up (va_up k 4 w.2.2.2.2.2.2.2.2.2.1) 5 w.2.2.2.2.2.2.2.2.2.2.1, va_up (va_up (va_up G 4 w.2.2.2.2.2.2.2.1) 5 w.2.2.2.2.2.2.2.2.1) 6 w.2.2.2.2.2.2.2.2.2.2.2))) := by
      match sh, hs with
      | 0, hs => exact absurd hs (by decide)
      | 1, hs => exact absurd hs (by decide)
      | z + 2, _ =>
        unfold gX9w_beat
        dsimp only
        simp only [h13, h14, h15, h16, h17, h3, h4, h5, h6, q8, q9, q10, q11]
        exact bto eo rfl
    rcases ho with ⟨nv, rfl⟩ | ⟨hv, rfl, _⟩
    · obtain ⟨x, ex, e1, e2⟩ := aL_beat_no (n := n) (t := t) (on := on) (i1 := i1) (fun z => nv (yIn_of z))
      rw [ybr_il] at ey
      rw [ex] at ex2
      cases ex2
      rw [ey] at ey2
      cases ey2
      refine ⟨_, _, ex, ey, ⟨hR, ?_⟩, e1.symm, fun z => absurd (e1.symm.trans z) (show ¬ (1 : Int32) = 0 by decide)⟩
      refine yRest_congr e2 ⟨by dsimp only; omega, fun i y1 y2 => ?_, fun i y1 => ?_, rfl, fun i y1 => ?_, fun i y1 => ?_⟩ hw
      · rcases (show i = 1 ∨ i = 5 ∨ i = 6 ∨ (i ≠ 1 ∧ i ≠ 5 ∧ i ≠ 6) by omega) with rfl | rfl | rfl | ⟨w1, w2, w3⟩
        · rfl
        · exact h5.symm
        · exact h6.symm
        · dsimp only
          rw [va_ne w3, va_ne w2, va_ne w1, va_ne (by omega)]
      · dsimp only
        rw [va_ne (by omega), va_ne (by omega), va_ne (by omega), va_ne (by omega)]
      · dsimp only
        simp only [va_self]
      · dsimp only
        simp only [va_self]
    · obtain ⟨nn, hnn, hn1, hn2⟩ : ∃ q : Nat, i1 = nI q ∧ 1 ≤ q ∧ q ≤ 300 := ⟨i1.toInt.toNat, nj_to (by omega), by omega, by omega⟩
      subst hnn
      rw [nj_cl (by omega)] at ey
      obtain ⟨oo, eoo, w, hbo, hoo⟩ := c_beat (n := nn) (otk := n 18) (zr := n 7) (zc := n 8) (zs := n 9) (fun q o => yX r2 c2 s2 lr lc (yJst r2 k2 c2 g2 (G 8) (G 9)) W q.1 q.2.1 q.2.2.1 q.2.2.2.1 q.2.2.2.2.1 o) (fun q o => yXE W q.1 q.2.1 q.2.2.2.2.1 o) J2 Y hz f5 f6 hw.1 hC' zX (fun z q o o' a1 a2 a3 a4 a5 => yX_step J2 Y a1 a2 a3 a4 a5) (fun z q o o' a1 a2 a3 a4 => yX_last J2 Y a1 a2 a3 a4) hn1 hn2
      subst hoo
      have ex : gL_beat n t on (nI nn) = some (0, va_up (va_up (va_up (va_up (va_up (va_up (va_up (va_up (va_up (va_up n 7 w.2.2.2.2.2.2.2.2.2.1) 8 w.2.2.2.2.2.2.2.2.2.2.1) 9 w.2.2.2.2.2.2.2.2.2.2.2.1) 11 w.1) 12 w.2.1) 13 w.2.2.1) 14 w.2.2.2.1) 15 w.2.2.2.2.1) 16 w.2.2.2.2.2.1) 18 w.2.2.2.2.2.2.1, va_up (va_up (va_up t 2 w.2.2.2.2.2.2.2.1) 3 w.2.2.2.2.2.2.2.2.1) 4 w.2.2.2.2.2.2.2.2.2.2.2.2, (w.2.2.2.2.1).toInt64) := by
        unfold gL_beat fL_beat
        rw [e10, e19, e21, e22, e23, e24, e25, e26, e27, e28, e29, e30]
        exact bto (bto eoo rfl) rfl
      have hI := yRun_inv (B := G 2) J2 Y hz nn
      rcases hbo with ⟨q, b1, b2, b3, b4, b5, b6, bX⟩ | ⟨q, b1, b2, bX⟩
      · rw [b1] at ey
        have ey : gX9w_beat sh m L k G (nI nn) = some _ := ey
        rw [ex] at ex2
        cases ex2
        rw [ey] at ey2
        cases ey2
        refine ⟨_, _, ex, ey, ⟨hR, ?_⟩, rfl, fun _ => ?_⟩
        · refine ⟨hw.1, hw.2.1, hw.2.2.1, hw.2.2.2.1, fun _ => ?_, fun z => absurd (Nat.le_refl 2) z⟩
          exact ⟨r2, k2, c2, g2, s2, lr, lc, q.2.2.1, q.2.2.2.1, ⟨J2, Y, ⟨h13, h14, h15, h16, h17⟩, ⟨h3, h4, rfl, rfl⟩, ⟨q8, q9, q10, q11⟩, b2⟩, ⟨e19, e20, e21, e22, e23⟩, f5, f6, e10, ⟨e24, e25, e26, e27, e28, e29, e30, e31, e32⟩, b3, b4.trans z7, b5.trans z8, z4, z5, bX⟩
        · show (w.2.2.2.2.1).toInt64 = _
          rw [b3.2.2.2.2.1]
          rfl
      · rw [b1] at ey
        have ey : gX9w_beat sh m L k G (nI nn) = some _ := ey
        have dd := hI.2 q b1
        obtain ⟨c1', c2', c3', c4', c5', c6', c7', c8'⟩ := b2
        rw [ex] at ex2
        cases ex2
        rw [ey] at ey2
        cases ey2
        refine ⟨_, _, ex, ey, ⟨hR, ?_⟩, rfl, fun _ => ?_⟩
        · refine ⟨hw.1, hw.2.1, hw.2.2.1, hw.2.2.2.1, fun z => absurd z (show ¬ 2 ≤ 1 by decide), fun _ => ?_⟩
          have J3 := J2
          obtain ⟨⟨x1, x2'⟩, ⟨x3, x4⟩, ⟨x5, x6⟩, x7, x8⟩ := J3
          refine ⟨c1', c2', c3', c4', ?_, ?_, fun z => ?_, fun _ => ⟨?_, c7'⟩, ?_, bX⟩
          · refine c5'.trans (congrArg nI ?_)
            exact dd.1.symm
          · refine c6'.trans (congrArg nI ?_)
            exact dd.2.symm
          · have z : q.2.2.2.2.2.2.1 = 0 := z
            omega
          · show 1 ≤ q.2.2.2.2.2.2.2.1
            omega
          · intro a b ha hb
            have ha : a < q.2.2.2.2.2.2.1 := ha
            have hb : b < q.2.2.2.2.2.2.2.1 := hb
            exact c8' a b (by omega) (by omega) ⟨by omega, by omega⟩
        · show (w.2.2.2.2.1).toInt64 = _
          rw [c1']
  · have hi := hw.2.2.2.2.2 hs
    have ey := eM_beat_i (m := m) (L := L) (k := k) (G := G) (i1 := i1) sh hs
    by_cases hv : yIn i1 1 300 = true
    · obtain ⟨x, ex, e1, e2⟩ := aL_beat_i (n := n) (t := t) (on := on) hv hi.1
      rw [if_pos hv] at ey
      rw [ex] at ex2
      cases ex2
      rw [ey] at ey2
      cases ey2
      exact ⟨_, _, ex, ey, ⟨hR, yRest_congr e2 ⟨rfl, fun i z1 z2 => va_ne (by omega), fun i z1 => va_ne (by omega), rfl, fun _ _ => rfl, fun _ _ => rfl⟩ hw⟩, e1.symm, fun z => absurd (e1.symm.trans z) (show ¬ (2 : Int32) = 0 by decide)⟩
    · obtain ⟨x, ex, e1, e2⟩ := aL_beat_no (n := n) (t := t) (on := on) (i1 := i1) hv
      rw [if_neg hv] at ey
      rw [ex] at ex2
      cases ex2
      rw [ey] at ey2
      cases ey2
      exact ⟨_, _, ex, ey, ⟨hR, yRest_congr e2 ⟨rfl, fun i z1 z2 => va_ne (by omega), fun i z1 => va_ne (by omega), rfl, fun _ _ => rfl, fun _ _ => rfl⟩ hw⟩, e1.symm, fun z => absurd (e1.symm.trans z) (show ¬ (1 : Int32) = 0 by decide)⟩
