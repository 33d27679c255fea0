/-! ===== isSound, digest ===== -/
theorem yS4_fc {W : Nat} {n n2 : Nat → Int32} {t t2 : Nat → Nat → Int32} {r kk c g s Rn Rk : Nat} {G H B K U R : Nat → Nat → Int32} (h : yS4 W n t r kk c g s G H B K Rn Rk U R) (fc : yFC n n2 t t2) (fr : (n2 0 = n 0 ∧ n2 1 = n 1 ∧ n2 2 = n 2 ∧ n2 3 = n 3 ∧ n2 4 = n 4) ∧ t2 0 = t 0 ∧ t2 1 = t 1) : yS4 W n2 t2 r kk c g s G H B K Rn Rk U R := by
  obtain ⟨f1, f2⟩ := fc
  obtain ⟨⟨e0, e1, e2, e3, e4⟩, g0, g1⟩ := fr
  exact yS4_same h e0 e1 e2 e3 e4 (f1 5 (by decide) (by decide)) (f1 6 (by decide) (by decide)) (f1 7 (by decide) (by decide)) (f1 8 (by decide) (by decide)) (f1 15 (by decide) (by decide)) (f1 16 (by decide) (by decide)) (f1 18 (by decide) (by decide)) g0 g1 (f2 2 (by decide)) (f2 4 (by decide))
theorem g_isSound {W : Nat} {n : Nat → Int32} {t : Nat → Nat → Int32} {r kk c g s Rn Rk : Nat} {G H B K U R : Nat → Nat → Int32} (h : yS4 W n t r kk c g s G H B K Rn Rk U R) : ∃ x, gX6_isSound n t = some x ∧ x.1 = 1 ∧ x.2.1 17 = n 17 ∧ x.2.1 16 = n 16 ∧ yS4 W x.2.1 x.2.2 r kk c g s G H B K Rn Rk U R := by
  obtain ⟨⟨J, _, hn⟩, _, ⟨d1, d2, d3, d4⟩, _⟩ := id h
  obtain ⟨hf, hh⟩ := yS4_q h
  obtain ⟨x, ex, e1⟩ := aX_isSound J hn hf hh d1 d2 d4 (yFt_4 h)
  have fc := f4_isSound ex
  exact ⟨x, ex, e1, fc.1 17 (by decide) (by decide), fc.1 16 (by decide) (by decide), yS4_fc h fc (fr_isSound ex)⟩
theorem g_digest {W : Nat} {n : Nat → Int32} {t : Nat → Nat → Int32} {r kk c g s Rn Rk : Nat} {G H B K U R : Nat → Nat → Int32} (h : yS4 W n t r kk c g s G H B K Rn Rk U R) : ∃ x, gX6_digest n t = some x ∧ x.1 = yDgc r kk c g s G H K Rn Rk R (yMv r kk c g s G H B K (n 16) (n 17) Rn Rk (0, 0, -1)) (fun i j w => yCT B K U 0 (-1) i j (nI w)) ∧ x.2.1 17 = n 17 ∧ x.2.1 16 = n 16 ∧ yS4 W x.2.1 x.2.2 r kk c g s G H B K Rn Rk U R := by
  obtain ⟨⟨J, _, hn⟩, _, ⟨d1, d2, d3, d4⟩, h15, hu, ⟨f1, f2, f3, f4, f5, f6, f7⟩, _⟩ := id h
  obtain ⟨hf, hh⟩ := yS4_q h
  have runs : fX5_runs (n 15) = some (yb false) := by
    rw [h15]
    rfl
  obtain ⟨x, ex, e1⟩ := aX_digest (yMv r kk c g s G H B K (n 16) (n 17) Rn Rk (0, 0, -1)) (fun i j w => yCT B K U 0 (-1) i j (nI w)) J hn hf hh d1 d2 d4 (yFt_4 h) f1 f2 f3 f4 f7 (fun i1 => by
    have e := c_meshNumber (be := n 16) (wo := n 17) (oti := n 11) (i1 := i1) false J hf hh d1 d2 runs f5
    rw [e, h15]
    rfl) (fun i j w hi' hj => by
    rw [h15]
    exact c_cell_i d1 d2 d4 hu hi' hj)
  have fc := f4_digest ex
  exact ⟨x, ex, e1, fc.1 17 (by decide) (by decide), fc.1 16 (by decide) (by decide), yS4_fc h fc (fr_digest ex)⟩
/-- a cell is broken, or not any more -/
theorem e6_broken {wb wk : Int32} {i j : Nat} {B K : Nat → Nat → Int32} {isb : Int32} (hi : i < 5) (hj : j < 5) (hb : Bo isb) (hB : yFlag wb B) (hK : yFlag wk K) (bB : BG B) (bK : BG K) (hs : ySub B K) : ∃ v b k, fX6_broken wb wk (nI i) (nI j) isb = some (.inr (v, b, k)) ∧ ∃ B2 K2, yFlag b B2 ∧ yFlag k K2 ∧ BG B2 ∧ BG K2 ∧ ySub B2 K2 := by
  have em : fX6_isOnMesh (nI i) (nI j) = some (yb true) := by
    rw [c_onMesh]
    unfold yIn
    rw [decide_eq_true (show 0 ≤ (nI i).toInt ∧ (nI i).toInt ≤ 4 by rw [yi_nI (by omega)]; omega), decide_eq_true (show 0 ≤ (nI j).toInt ∧ (nI j).toInt ≤ 4 by rw [yi_nI (by omega)]; omega)]
    rfl
  have bg : ∀ {P : Nat → Nat → Int32} {x : Int32}, BG P → Bo x → BG (upg P i j x) := fun {P x} hP hx a b => by
    unfold upg upd
    by_cases h1 : a = i
    · rw [if_pos h1]
      by_cases h2 : b = j
      · rw [if_pos h2]
        exact hx
      · rw [if_neg h2]
        exact hP i b
    · rw [if_neg h1]
      exact hP a b
  have sub : ySub (upg B i j isb) (upg K i j (K i j &&& isb)) := by
    intro a b ha hb' hz
    unfold upg upd at hz ⊢
    by_cases h1 : a = i
    · rw [if_pos h1] at hz ⊢
      by_cases h2 : b = j
      · rw [if_pos h2] at hz ⊢
        rw [hz, Int32.and_zero]
      · rw [if_neg h2] at hz ⊢
        exact hs i b (by omega) hb' hz
    · rw [if_neg h1] at hz ⊢
      exact hs a b ha hb' hz
  unfold fX6_broken
  rcases hb with rfl | rfl
  · have f1 := yFlag_off hB hi hj
    have f2 := yFlag_off hK hi hj
    have mk : fX0_mark wb wk (nI i) (nI j) 0 = some (wb &&& (((1 : Int32) <<< (nI (i * 5 + j) &&& 31)) ^^^ (-1)), wk &&& (((1 : Int32) <<< (nI (i * 5 + j) &&& 31)) ^^^ (-1))) := by
      unfold fX0_mark
      exact bto c_bitOf (if_pos rfl)
    rw [Int32.and_zero] at sub
    exact ⟨_, _, _, bto em ((if_neg (show ¬ yb true = 0 by decide)).trans (bto mk (bto (yFlag_count f1) rfl))), _, _, f1, f2, bg bB (Or.inl rfl), bg bK (Or.inl rfl), sub⟩
  · have f1 := yFlag_on hB hi hj
    have e1 : K i j &&& 1 = K i j := by rcases bK i j with q | q <;> rw [q] <;> decide
    have f2 : yFlag wk (upg K i j (K i j &&& 1)) := yFlag_ext hK (fun a b _ _ => by
      rw [e1]
      unfold upg upd
      by_cases h1 : a = i
      · rw [if_pos h1]
        by_cases h2 : b = j
        · rw [if_pos h2, h1, h2]
        · rw [if_neg h2, h1]
      · rw [if_neg h1])
    have mk : fX0_mark wb wk (nI i) (nI j) 1 = some (wb ||| ((1 : Int32) <<< (nI (i * 5 + j) &&& 31)), wk) := by
      unfold fX0_mark
      exact bto c_bitOf (if_neg (show ¬ (1 : Int32) = 0 by decide))
    refine ⟨_, _, _, bto em ((if_neg (show ¬ yb true = 0 by decide)).trans (bto mk (bto (yFlag_count f1) rfl))), _, _, f1, f2, bg bB (Or.inr rfl), bg bK ?_, sub⟩
    rw [e1]
    exact bK i j
