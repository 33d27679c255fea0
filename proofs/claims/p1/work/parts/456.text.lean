/-! ===== rows as texts: both sides make the same ===== -/
def yChr (B K : Nat → Nat → Int32) (u : Bool) (i j : Nat) : Int32 := if K i j = 0 then (if B i j = 0 then (if u = true then 111 else 46) else 63) else 120
theorem yChr_ch {B K : Nat → Nat → Int32} {u : Bool} {i j : Nat} : Ch (yChr B K u i j) := by
  unfold yChr
  by_cases h : K i j = 0
  · rw [if_pos h]
    by_cases h2 : B i j = 0
    · rw [if_pos h2]
      cases u
      · exact Or.inl rfl
      · exact Or.inr (Or.inr (Or.inl rfl))
    · rw [if_neg h2]
      exact Or.inr (Or.inl rfl)
  · rw [if_neg h]
    exact Or.inr (Or.inr (Or.inr rfl))
def yTxt (c : Nat → Int32) (n : Nat) : Nat → Int32 := match n with
  | 0 => fun _ => 0
  | n + 1 => upd (yTxt c n) n (vp_nar .byte (c n).toInt8.toInt32)
theorem yTxt_fb {c : Nat → Int32} (hc : ∀ j, Ch (c j)) (n : Nat) : Fb (yTxt c n) := by
  induction n with
  | zero => exact fun _ => (show fits .byte (.int 0) = true by decide)
  | succ n ih => exact yi_ch ih (hc n)
theorem e_append {c : Nat → Int32} {n : Nat} (hn : n < 15) (hc : Ch (c n)) : fJ4_append_cf468 (nI n) (yTxt c n) 16 (c n) = some (nI (n + 1), yTxt c (n + 1)) := by
  have e1 : fJ5_ensureCapacityInternal_d00df 16 (nI n + 1) = some () := by
    unfold fJ5_ensureCapacityInternal_d00df
    rw [show (nI 16 >>> ((0 : Int32) &&& 31)) = nI 16 by decide, nj_p1]
    refine if_pos ?_
    have g1 := yi_nI (n := n + 1) (by omega)
    have g2 := yi_nI (n := 16) (by omega)
    rw [yi_le, yi_sub (by omega) (by omega), g1, g2, yI0]
    omega
  have e2 : fJ1_canEncode_fc78d (c n) = some 1 := by
    unfold fJ1_canEncode_fc78d
    rcases hc with h | h | h | h <;> rw [h] <;> rfl
  have e3 : fJ5_append_3fe6f (nI n) (yTxt c n) 16 (c n) = some (nI n + 1, upd (yTxt c n) (nI n).toNatClampNeg (vp_nar .byte (c n).toInt8.toInt32)) := by
    unfold fJ5_append_3fe6f
    refine bto e1 ?_
    refine bto (r := 1) rfl ?_
    refine bto e2 ?_
    refine (if_neg (by decide)).trans ?_
    exact if_pos (nj_in (by omega) (by omega))
  unfold fJ4_append_cf468
  refine bto e3 ?_
  show some (nI n + 1, upd (yTxt c n) (nI n).toNatClampNeg (vp_nar .byte (c n).toInt8.toInt32)) = some (nI (n + 1), upd (yTxt c n) n (vp_nar .byte (c n).toInt8.toInt32))
  rw [nj_p1, nj_cl (by omega)]
theorem o_toString {hc : Int32} {hf : Nat → Int32} (h5 : hc = 5) (hb : Fb hf) : Ok (fJ4_toString_0e30d hc hf 16) (fun r => r.2 = 5) := by
  subst h5
  unfold fJ4_toString_0e30d fJ0_init_81219 fJ0_init_db425 fJ5_getValue_6d5f1 fJ4_length_8abf5 fJ5_length_8abf5 fJ5_isLatin1_aae02 fJ7_copyOfRange_39247 fJ7_copyOfRangeByte_39247 fJ7_checkLength_df160
  refine Ok.bind (P := fun r => r.2 = 5) (Ok.bind (P := fun r => r.2 = 5) (Ok.bind (P := fun _ => True) (Ok.some trivial) (fun _ _ => Ok.bind (P := fun r => r = 5) (Ok.bind (P := fun r => r = 5) (Ok.some rfl) (fun r hr => Ok.some hr)) (fun r hr => Ok.bind (P := fun _ => True) (Ok.some trivial) (fun _ _ => Ok.bind (P := fun r => r.2 = 5) ?_ (fun _ h => Ok.some h))))) (fun _ h => Ok.some h)) (fun _ h => Ok.some h)
  subst hr
  exact Ok.ite (fun h => absurd h (by decide)) (fun _ => Ok.bind (P := fun r => r.2 = 5) (Ok.bind (P := fun _ => True) (Ok.grd (by decide) (Ok.some trivial)) (fun _ _ => Ok.grd (by decide) (Ok.grd ⟨by decide, by decide, by decide, by decide, by decide, fun i _ => hb _⟩ (Ok.some (show ((5 : Int32) - 0).toNatClampNeg = 5 by decide))))) (fun _ h => Ok.some h))
theorem e_toString {c : Nat → Int32} (hc : ∀ j, Ch (c j)) : ∃ f, fJ4_toString_0e30d (nI 5) (yTxt c 5) 16 = some (f, 5) := by
  obtain ⟨⟨f, N⟩, e, h⟩ := o_toString (hc := nI 5) rfl (yTxt_fb hc 5)
  have h : N = 5 := h
  rw [h] at e
  exact ⟨f, e⟩
theorem c_sign {wb wk obl oy3 oy4 : Int32} {B K : Nat → Nat → Int32} {u : Bool} {i j : Nat} (hB : yFlag wb B) (hK : yFlag wk K) (hs : ySub B K) (hi : i < 5) (hj : j < 5) (hL : fX5_isInLayout obl oy3 oy4 (nI i) (nI j) = some (yb u)) : fX6_signOf wb wk obl oy3 oy4 (nI i) (nI j) = some (yChr B K u i j) := by
  unfold fX6_signOf yChr
  refine bto (c_stateOf hB hK hs hi hj) ?_
  by_cases q : K i j = 0
  · rw [if_pos q, if_pos q]
    by_cases b : B i j = 0
    · rw [decide_eq_true b, if_pos b]
      refine (if_neg (by decide)).trans ?_
      refine (if_neg (by decide)).trans ?_
      refine bto hL ?_
      cases u
      · rfl
      · rfl
    · rw [decide_eq_false b, if_neg b]
      refine (if_neg (by decide)).trans ?_
      exact if_pos (by decide)
  · rw [if_neg q, if_neg q]
    exact if_pos rfl
theorem e_X6_row {xwb xwk xobl xoy3 xoy4 : Int32} {i : Nat} {c : Nat → Int32} (hi : i < 5) (hc : ∀ j, Ch (c j)) (hs : ∀ j, j < 5 → fX6_signOf xwb xwk xobl xoy3 xoy4 (nI i) (nI j) = some (c j)) {z : (Nat → Int32) × Nat} (hz : fJ4_toString_0e30d (nI 5) (yTxt c 5) 16 = some z) : fX6_row xwb xwk xobl xoy3 xoy4 (nI i) = some (.inr (z.1, z.2)) := by
  unfold fX6_row
  refine (if_neg (by rw [nj_neg (by omega)]; exact id)).trans ?_
  refine (if_pos (by rw [li5, nj_lt (by omega) (by omega)]; exact hi)).trans ?_
  refine bto (r := ()) rfl ?_
  refine bto (wl_eq (fun j => (nI j, nI j, yTxt c j)) 0 5 (b := (nI 5, nI 5, yTxt c 5)) rfl (by decide) (by decide) (fun j _ hj => ?_) ?_) ?_
  · refine (if_neg (fun z => by rw [li5, nj_le (by omega) (by omega)] at z; omega)).trans ?_
    refine bto (hs j hj) ?_
    refine bto (e_append (by omega) (hc j)) ?_
    dsimp only
    rw [nj_p1]
  · exact if_pos (Int32.le_refl _)
  · exact bto hz rfl
theorem aL_row_no {n : Nat → Int32} {t : Nat → Nat → Int32} {on : Int64} {i1 : Int32} (h : ¬ yIn i1 0 4 = true) : gL_row n t on i1 = some (.inr (1, n, t, on)) := by
  have l5 : Int32.toInt 5 = 5 := by decide
  have e : fX6_row (n 5) (n 6) (n 15) (n 27) (n 28) i1 = some (.inl 1) := by
    unfold fX6_row
    by_cases c1 : i1 < 0
    · exact if_pos c1
    · refine (if_neg c1).trans ?_
      refine if_neg (fun c2 => h ?_)
      rw [yi_lt, yI0] at c1
      rw [yi_lt, l5] at c2
      exact decide_eq_true (by omega)
  have e2 : fL_row (n 5) (n 6) (n 15) (n 27) (n 28) i1 = some (.inr 1) := by
    unfold fL_row
    exact bto e rfl
  unfold gL_row
  exact bto e2 rfl
theorem aL_row {n : Nat → Int32} {t : Nat → Nat → Int32} {on : Int64} {i : Nat} {c : Nat → Int32} (hi : i < 5) (hc : ∀ j, Ch (c j)) (hs : ∀ j, j < 5 → fX6_signOf (n 5) (n 6) (n 15) (n 27) (n 28) (nI i) (nI j) = some (c j)) {f : Nat → Int32} {N : Nat} (hz : fJ4_toString_0e30d (nI 5) (yTxt c 5) 16 = some (f, N)) : gL_row n t on (nI i) = some (.inl (0, n, t, on, N, f)) := by
  have e := e_X6_row hi hc hs hz
  have e2 : fL_row (n 5) (n 6) (n 15) (n 27) (n 28) (nI i) = some (.inl (0, f, N)) := by
    unfold fL_row
    exact bto e rfl
  unfold gL_row
  exact bto e2 rfl
theorem e_X9_row_no_i {B K : Nat → Nat → Int32} {i1 : Int32} (h : ¬ yIn i1 0 4 = true) : fX9_row_i B K i1 = some (.inr 1) := by
  have h : yIn i1 0 4 = false := by simpa using h
  have e0 : Int32.toInt 0 = 0 := by decide
  have e4 : Int32.toInt 4 = 4 := by decide
  unfold fX9_row_i
  refine bto e_isIn ?_
  rw [yb_not, e0, e4, h]
  refine bto (r := 1) rfl ?_
  refine bto (e_start_i (by decide)) ?_
  exact (if_neg (by decide)).trans rfl
theorem e_X9_row_no_r {B K : Nat → Nat → Int32} {i1 lr lc : Int32} (h : ¬ yIn i1 0 4 = true) : fX9_row_r lr lc B K i1 = some (.inr 1) := by
  have h : yIn i1 0 4 = false := by simpa using h
  have e0 : Int32.toInt 0 = 0 := by decide
  have e4 : Int32.toInt 4 = 4 := by decide
  unfold fX9_row_r
  refine bto e_isIn ?_
  rw [yb_not, e0, e4, h]
  refine bto (r := 1) rfl ?_
  refine bto (e_start_r (by decide)) ?_
  exact (if_neg (by decide)).trans rfl
theorem e_X9_row_i {B K : Nat → Nat → Int32} {i : Nat} (hi : i < 5) {f : Nat → Int32} {N : Nat} (hz : fJ4_toString_0e30d (nI 5) (yTxt (fun j => yChr B K false i j) 5) 16 = some (f, N)) : fX9_row_i B K (nI i) = some (.inl (0, f, N)) := by
  have e0 : Int32.toInt 0 = 0 := by decide
  have e4 : Int32.toInt 4 = 4 := by decide
  have h : yIn (nI i) 0 4 = true := decide_eq_true (by rw [yi_nI (by omega)]; omega)
  have ki : (nI i).toNatClampNeg = i := nj_cl (by omega)
  unfold fX9_row_i
  refine bto e_isIn ?_
  rw [yb_not, e0, e4, h]
  refine bto (r := 0) rfl ?_
  refine bto (e_start_i (by decide)) ?_
  refine (if_pos (by decide)).trans ?_
  refine bto (r := ()) rfl ?_
  refine bto (wl_eq (fun j => (nI j, nI j, yTxt (fun j => yChr B K false i j) j)) 0 5 (b := (nI 5, nI 5, yTxt (fun j => yChr B K false i j) 5)) rfl (by decide) (by decide) (fun j _ hj => ?_) ?_) ?_
  · have kj : (nI j).toNatClampNeg = j := nj_cl (by omega)
    refine (if_neg (fun z => by rw [li5, nj_le (by omega) (by omega)] at z; omega)).trans ?_
    refine (if_pos (nj_in (by omega) (by omega))).trans ?_
    refine (if_pos (nj_in (by omega) (by omega))).trans ?_
    refine bto (r := yChr B K false i j) ?_ ?_
    · dsimp only
      rw [ki, kj]
      by_cases q : K i j = 0
      · refine (if_pos q).trans ?_
        have g1 : ¬ (nI i < 0 ∨ 5 ≤ i) := by rw [nj_neg (by omega), false_or]; omega
        have g2 : ¬ (nI j < 0 ∨ 5 ≤ j) := by rw [nj_neg (by omega), false_or]; omega
        refine (if_pos g1).trans ?_
        refine (if_pos g2).trans ?_
        unfold yChr
        rw [if_pos q]
        by_cases b : B i j = 0
        · rw [if_pos b, if_pos b]
          rfl
        · rw [if_neg b, if_neg b]
      · refine (if_neg q).trans ?_
        unfold yChr
        rw [if_neg q]
    · refine bto (e_append (c := fun j => yChr B K false i j) (by omega) yChr_ch) ?_
      dsimp only
      rw [nj_p1]
  · exact if_pos (Int32.le_refl _)
  · exact bto hz rfl
theorem e_X9_row_r {B K : Nat → Nat → Int32} {i lr lc : Nat} (hi : i < 5) (Y : yLay lr lc) {f : Nat → Int32} {N : Nat} (hz : fJ4_toString_0e30d (nI 5) (yTxt (fun j => yChr B K (yBit lr i && yBit lc j) i j) 5) 16 = some (f, N)) : fX9_row_r (nI lr) (nI lc) B K (nI i) = some (.inl (0, f, N)) := by
  have e0 : Int32.toInt 0 = 0 := by decide
  have e4 : Int32.toInt 4 = 4 := by decide
  have h : yIn (nI i) 0 4 = true := decide_eq_true (by rw [yi_nI (by omega)]; omega)
  have ki : (nI i).toNatClampNeg = i := nj_cl (by omega)
  unfold fX9_row_r
  refine bto e_isIn ?_
  rw [yb_not, e0, e4, h]
  refine bto (r := 0) rfl ?_
  refine bto (e_start_r (by decide)) ?_
  refine (if_pos (by decide)).trans ?_
  refine bto (r := ()) rfl ?_
  refine bto (wl_eq (fun j => (nI j, nI j, yTxt (fun j => yChr B K (yBit lr i && yBit lc j) i j) j)) 0 5 (b := (nI 5, nI 5, yTxt (fun j => yChr B K (yBit lr i && yBit lc j) i j) 5)) rfl (by decide) (by decide) (fun j _ hj => ?_) ?_) ?_
  · have kj : (nI j).toNatClampNeg = j := nj_cl (by omega)
    refine (if_neg (fun z => by rw [li5, nj_le (by omega) (by omega)] at z; omega)).trans ?_
    refine bto (e_has lr Y.1.2 i (by omega)) ?_
    refine bto (r := yb (yBit lr i && yBit lc j)) ?_ ?_
    · cases yBit lr i
      · rfl
      · refine (if_neg (by decide)).trans ?_
        refine bto (e_has lc Y.2.2 j (by omega)) ?_
        cases yBit lc j
        · rfl
        · rfl
    refine (if_pos (nj_in (by omega) (by omega))).trans ?_
    refine (if_pos (nj_in (by omega) (by omega))).trans ?_
    refine bto (r := yChr B K (yBit lr i && yBit lc j) i j) ?_ ?_
    · dsimp only
      rw [ki, kj]
      generalize (yBit lr i && yBit lc j) = u
      by_cases q : K i j = 0
      · refine (if_pos q).trans ?_
        have g1 : ¬ (nI i < 0 ∨ 5 ≤ i) := by rw [nj_neg (by omega), false_or]; omega
        have g2 : ¬ (nI j < 0 ∨ 5 ≤ j) := by rw [nj_neg (by omega), false_or]; omega
        refine (if_pos g1).trans ?_
        refine (if_pos g2).trans ?_
        unfold yChr
        rw [if_pos q]
        by_cases b : B i j = 0
        · rw [if_pos b, if_pos b]
          cases u
          · rfl
          · rfl
        · rw [if_neg b, if_neg b]
      · refine (if_neg q).trans ?_
        unfold yChr
        rw [if_neg q]
    · refine bto (e_append (c := fun j => yChr B K (yBit lr i && yBit lc j) i j) (by omega) yChr_ch) ?_
      dsimp only
      rw [nj_p1]
  · exact if_pos (Int32.le_refl _)
  · exact bto hz rfl
theorem eM_row_no {sh : Nat} {m : Nat → Int32} {L : Int64} {k : Nat → Nat} {G : Nat → Nat → Nat → Int32} {i1 : Int32} (h : ¬ yIn i1 0 4 = true) : gX9w_row sh m L k G i1 = some (.inr (min sh 2, va_up m 0 1, L, k, G)) := by
  match sh with
  | 0 =>
    unfold gX9w_row
    exact bto (e_X9_row_no_i h) rfl
  | 1 =>
    unfold gX9w_row
    exact bto (e_X9_row_no_i h) rfl
  | z + 2 =>
    unfold gX9w_row
    rw [show min (z + 2) 2 = 2 by omega]
    exact bto (e_X9_row_no_r h) rfl
theorem eM_row_i {m : Nat → Int32} {L : Int64} {k : Nat → Nat} {G : Nat → Nat → Nat → Int32} {i : Nat} (sh : Nat) (hs : ¬ 2 ≤ sh) (hi : i < 5) {f : Nat → Int32} {N : Nat} (hz : fJ4_toString_0e30d (nI 5) (yTxt (fun j => yChr (G 2) (G 3) false i j) 5) 16 = some (f, N)) : gX9w_row sh m L k G (nI i) = some (.inl (min sh 2, va_up m 0 0, L, k, G, N, f)) := by
  match sh with
  | 0 =>
    unfold gX9w_row
    exact bto (e_X9_row_i hi hz) rfl
  | 1 =>
    unfold gX9w_row
    exact bto (e_X9_row_i hi hz) rfl
  | z + 2 => exact absurd (by omega) hs
theorem eM_row_r {m : Nat → Int32} {L : Int64} {k : Nat → Nat} {G : Nat → Nat → Nat → Int32} {i lr lc : Nat} (sh : Nat) (hs : 2 ≤ sh) (Y : yLay lr lc) (h3 : m 3 = nI lr) (h4 : m 4 = nI lc) (hi : i < 5) {f : Nat → Int32} {N : Nat} (hz : fJ4_toString_0e30d (nI 5) (yTxt (fun j => yChr (G 2) (G 3) (yBit lr i && yBit lc j) i j) 5) 16 = some (f, N)) : gX9w_row sh m L k G (nI i) = some (.inl (min sh 2, va_up m 0 0, L, k, G, N, f)) := by
  match sh with
  | 0 => exact absurd hs (by decide)
  | 1 => exact absurd hs (by decide)
  | z + 2 =>
    unfold gX9w_row
    rw [show min (z + 2) 2 = 2 by omega]
    dsimp only
    rw [h3, h4]
    exact bto (e_X9_row_r hi Y hz) rfl
theorem yR4_q {W : Nat} {n : Nat → Int32} {t : Nat → Nat → Int32} {sh : Nat} {m : Nat → Int32} {L : Int64} {k : Nat → Nat} {G : Nat → Nat → Nat → Int32} (x : Int32) (h : yR4 W n t sh m L k G) : yR4 W n t (min sh 2) (va_up m 0 x) L k G :=
  ⟨yR2_q x h.1, yRest_congr ⟨fun _ _ _ => rfl, fun _ _ => rfl⟩ ⟨rfl, fun i h1 _ => va_ne (by omega), fun i h1 => va_ne (by omega), rfl, fun _ _ => rfl, fun _ _ => rfl⟩ h.2⟩
theorem c_inLayout {obl : Int32} {lr lc i j : Nat} (Y : yLay lr lc) (hr : fX5_runs obl = some (yb true)) (hi : i < 5) (hj : j < 5) : fX5_isInLayout obl (nI lr) (nI lc) (nI i) (nI j) = some (yb (yBit lr i && yBit lc j)) := by
  unfold fX5_isInLayout
  refine bto hr ?_
  refine (if_neg (by decide)).trans ?_
  cases e1 : yBit lr i
  · exact if_pos ((yb_has lr Y.1.2 i hi).mpr e1)
  refine (if_neg (fun w => by rw [yb_has lr Y.1.2 i hi, e1] at w; exact absurd w (by decide))).trans ?_
  cases e2 : yBit lc j
  · exact if_pos ((yb_has lc Y.2.2 j hj).mpr e2)
  · exact if_neg (fun w => by rw [yb_has lc Y.2.2 j hj, e2] at w; exact absurd w (by decide))
/-- both rows: one text, or none -/
theorem s4_row {W : Nat} {n : Nat → Int32} {t : Nat → Nat → Int32} {sh : Nat} {m : Nat → Int32} {L : Int64} {k : Nat → Nat} {G : Nat → Nat → Nat → Int32} {on : Int64} {i1 : Int32} (h : yR4 W n t sh m L k G) : (∃ f, gL_row n t on i1 = some (.inl (0, n, t, on, 5, f)) ∧ gX9w_row sh m L k G i1 = some (.inl (min sh 2, va_up m 0 0, L, k, G, 5, f)) ∧ yR4 W n t (min sh 2) (va_up m 0 0) L k G) ∨ (gL_row n t on i1 = some (.inr (1, n, t, on)) ∧ gX9w_row sh m L k G i1 = some (.inr (min sh 2, va_up m 0 1, L, k, G)) ∧ yR4 W n t (min sh 2) (va_up m 0 1) L k G) := by
  by_cases z1 : yIn i1 0 4 = true
  · refine Or.inl ?_
    have e1 := yIn_of z1
    obtain ⟨i, hi, rfl⟩ : ∃ i, i < 5 ∧ i1 = nI i := ⟨i1.toInt.toNat, by omega, nj_to (by omega)⟩
    obtain ⟨h2, hw⟩ := id h
    by_cases hs : 2 ≤ sh
    · obtain ⟨r2, k2, c2, g2, s2, lr, lc, ti, go, hr', e19, f5, f6, e10, ⟨e24, e25, e26, e27, e28, e29, e30, e31, e32⟩, hC', z7, z8, z4, z5, zX⟩ := hw.2.2.2.2.1 hs
      have ff := yFrom_step (st := yJst r2 k2 c2 g2 (G 8) (G 9)) hr'.2.2.2.2.2.1
      have fl := yFrom_le (ti := ti) (st := yJst r2 k2 c2 g2 (G 8) (G 9)) hr'.1 hr'.2.1 (yJst_of (G 8) (G 9) hr'.1).1 (by have := (yJst_of (G 8) (G 9) hr'.1).2; have := hr'.1.2.1.2; omega)
      have hgo := hr'.2.2.2.2.2.2.1
      have runs : fX5_runs (n 15) = some (yb true) := by
        rw [hC'.2.2.2.2.1]
        refine (c_runs (by dsimp only; omega)).trans ?_
        rw [beq_false_of_ne (show yFrom r2 c2 s2 lr lc (yJst r2 k2 c2 g2 (G 8) (G 9)) ti - go ≠ 0 by omega)]
        rfl
      obtain ⟨f, hz⟩ := e_toString (c := fun j => yChr (G 2) (G 3) (yBit lr i && yBit lc j) i j) (fun _ => yChr_ch)
      exact ⟨f, aL_row hi (fun _ => yChr_ch) (fun j hj => by
        rw [e27, e28]
        exact c_sign hw.1 hw.2.1 hw.2.2.1 hi hj (c_inLayout hr'.2.1 runs hi hj)) hz, eM_row_r sh hs hr'.2.1 hr'.2.2.2.1.1 hr'.2.2.2.1.2.1 hi hz, yR4_q 0 h⟩
    · have hi' := hw.2.2.2.2.2 hs
      obtain ⟨f, hz⟩ := e_toString (c := fun j => yChr (G 2) (G 3) false i j) (fun _ => yChr_ch)
      exact ⟨f, aL_row hi (fun _ => yChr_ch) (fun j hj => by
        rw [hi'.1]
        exact c_sign hw.1 hw.2.1 hw.2.2.1 hi hj rfl) hz, eM_row_i sh hs hi hz, yR4_q 0 h⟩
  · exact Or.inr ⟨aL_row_no z1, eM_row_no z1, yR4_q 1 h⟩
theorem e_equalsB {f : Nat → Int32} : fJ1_equals_b5fdf f 5 f 5 = some 1 := by
  unfold fJ1_equals_b5fdf
  refine (if_pos rfl).trans ?_
  refine bto (wl_eq (fun j => nI j) 0 5 (b := .inl (nI 5)) rfl (by decide) (by decide) (fun j _ hj => ?_) ?_) ?_
  · refine (if_neg (fun z => by rw [nj_le (by omega) (by omega)] at z; omega)).trans ?_
    refine (if_pos (nj_in (by omega) (by omega))).trans ?_
    refine (if_pos (nj_in (by omega) (by omega))).trans ?_
    refine (if_pos rfl).trans ?_
    rw [nj_p1]
  · exact if_pos (Int32.le_refl _)
  · rfl
theorem e_equals {f : Nat → Int32} : fJ0_equals_9ea2d f 5 f 5 = some 1 := by
  unfold fJ0_equals_9ea2d
  refine bto e_equalsB ?_
  exact if_neg (by decide)
