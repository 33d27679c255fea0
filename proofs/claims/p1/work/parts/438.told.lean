/-! ===== what is told, exactly ===== -/
def yVs (i1 i2 i3 : Int32) : Bool := yIn i1 1 8 && (yIn i3 1 8 && yIn i2 1 6)
theorem yI1 : Int32.toInt 1 = 1 := by decide
theorem yI0 : Int32.toInt 0 = 0 := by decide
theorem yI8 : Int32.toInt 8 = 8 := by decide
theorem yI6 : Int32.toInt 6 = 6 := by decide
theorem yI2 : Int32.toInt 2 = 2 := by decide
theorem yI9 : Int32.toInt 9 = 9 := by decide
theorem yIm9 : Int32.toInt (-9) = -9 := by decide
theorem yIn_of {x : Int32} {a b : Int} (h : yIn x a b = true) : a ≤ x.toInt ∧ x.toInt ≤ b := of_decide_eq_true h
theorem nj_m1' {r : Nat} (h : 1 ≤ r) (h2 : r < 1000) : (nI r - 1).toInt = (r : Int) - 1 := by
  rw [li1, nj_sub h, yi_nI (by omega)]
  omega
def yZ : Nat → Nat → Int32 := fun _ _ => 0
theorem e_shape_i {r k c g s : Nat} {G H : Nat → Nat → Int32} {i1 i2 i3 : Int32} (J : yJob r k c g s) : fX9_shape_i (nI r) (nI k) (nI c) r k G k c H i1 i2 i3 = some (if yVs i1 i2 i3 = true then (nI (yCount r k G + yCount k c H), 0, i1, i2, i3, i1.toNatClampNeg, i2.toNatClampNeg, yZ, i2.toNatClampNeg, i3.toNatClampNeg, yZ) else (0, 1, nI r, nI k, nI c, r, k, G, k, c, H)) := by
  obtain ⟨⟨a1, a2⟩, ⟨a3, a4⟩, ⟨a5, a6⟩, a7, a8⟩ := id J
  unfold fX9_shape_i yVs
  refine bto e_isIn ?_
  rw [yI1, yI8]
  have T : (((if yb (yIn i1 1 8) = 0 then some 1 else ((fX9_isIn i3 1 8).bind fun x_40 => (if x_40 = 0 then some 1 else ((fX9_isIn i2 1 6).bind fun x_46 => (if x_46 = 0 then some 1 else some 0))))) : Option (Int32))) = some (yb !(yIn i1 1 8 && (yIn i3 1 8 && yIn i2 1 6))) := by
    cases yIn i1 1 8
    · rfl
    · refine (if_neg (by decide)).trans ?_
      refine bto e_isIn ?_
      rw [yI1, yI8]
      cases yIn i3 1 8
      · rfl
      · refine (if_neg (by decide)).trans ?_
        refine bto e_isIn ?_
        rw [yI1, yI6, yb_not]
        rfl
  refine bto T ?_
  refine bto (e_start_i (by decide)) ?_
  cases e : (yIn i1 1 8 && (yIn i3 1 8 && yIn i2 1 6))
  · rfl
  · rw [Bool.and_eq_true, Bool.and_eq_true] at e
    have e1 := yIn_of e.1
    have e2 := yIn_of e.2.1
    have e3 := yIn_of e.2.2
    refine (if_pos rfl).trans ?_
    refine bto (e_others (by omega) (by omega)) ?_
    refine bto (e_others (by omega) (by omega)) ?_
    obtain ⟨x, hx, hp⟩ := o_X9_lay_i (i1 := i1) (i2 := i2) (i3 := i3) ⟨by omega, by omega⟩ ⟨by omega, by omega⟩ ⟨by omega, by omega⟩
    refine bto hx ?_
    rw [hp, nj_add]
    rfl
theorem e_left_i {r k : Nat} {G : Nat → Nat → Int32} {i1 i2 i3 : Int32} (h1 : 1 ≤ r) (h2 : r ≤ 9) (h3 : 1 ≤ k) (h4 : k ≤ 9) : fX9_left_i (nI r) (nI k) r k G i1 i2 i3 = some (if (yIn i1 0 (r - 1) && yIn i2 0 (k - 1)) = true then (if yIn i3 (-9) 9 = true then (G i1.toNatClampNeg i2.toNatClampNeg, 0, upg G i1.toNatClampNeg i2.toNatClampNeg i3) else (0, 2, G)) else (0, 1, G)) := by
  have f1 := nj_m1' h1 (by omega)
  have f2 := nj_m1' h3 (by omega)
  unfold fX9_left_i
  refine bto e_isIn ?_
  rw [yI0, f1]
  have T : (((if yb (yIn i1 0 (r - 1)) = 0 then some 1 else ((fX9_isIn i2 0 (nI k - 1)).bind fun x_37 => (if x_37 = 0 then some 1 else some 0))) : Option (Int32))) = some (yb !(yIn i1 0 (r - 1) && yIn i2 0 (k - 1))) := by
    cases yIn i1 0 (r - 1)
    · rfl
    · refine (if_neg (by decide)).trans ?_
      refine bto e_isIn ?_
      rw [yI0, f2, yb_not]
      rfl
  refine bto T ?_
  refine bto (e_start_i (by decide)) ?_
  cases e : (yIn i1 0 (r - 1) && yIn i2 0 (k - 1))
  · rfl
  · rw [Bool.and_eq_true] at e
    have e1 := yIn_of e.1
    have e2 := yIn_of e.2
    refine (if_pos rfl).trans ?_
    refine bto e_isIn ?_
    rw [yIm9, yI9, yb_not]
    refine bto rfl ?_
    refine bto (e_refuse_i (by decide)) ?_
    have g1 := yi_in (x := i1) (n := r) (by omega) (by omega)
    have g2 := yi_in (x := i2) (n := k) (by omega) (by omega)
    cases yIn i3 (-9) 9
    · rfl
    · refine (if_pos rfl).trans ?_
      refine (if_pos g1).trans ?_
      refine (if_pos g2).trans ?_
      refine (if_pos g1).trans ?_
      exact (if_pos g2).trans rfl
theorem e_top_i {r k : Nat} {G : Nat → Nat → Int32} {i1 i2 i3 : Int32} (h1 : 1 ≤ r) (h2 : r ≤ 9) (h3 : 1 ≤ k) (h4 : k ≤ 9) : fX9_top_i (nI r) (nI k) r k G i1 i2 i3 = some (if (yIn i1 0 (r - 1) && yIn i2 0 (k - 1)) = true then (if yIn i3 (-9) 9 = true then (G i1.toNatClampNeg i2.toNatClampNeg, 0, upg G i1.toNatClampNeg i2.toNatClampNeg i3) else (0, 2, G)) else (0, 1, G)) := e_left_i h1 h2 h3 h4
theorem e_kind_i {g s : Nat} {i1 : Int32} (hs : s ≤ 1) : fX9_kind_i (nI g) (nI s) i1 = some (if yIn i1 0 2 = true then (nI g, 0, i1, if i1 = 0 then nI s else 0) else (0, 1, nI g, nI s)) := by
  unfold fX9_kind_i
  refine bto e_isIn ?_
  rw [yI0, yI2, yb_not]
  refine bto rfl ?_
  refine bto (e_start_i (by decide)) ?_
  cases yIn i1 0 2
  · rfl
  · refine (if_pos rfl).trans ?_
    by_cases h : i1 = 0
    · rw [if_pos h]
      refine bto (r := (1 : Int32)) rfl ?_
      rcases (show s = 0 ∨ s = 1 by omega) with rfl | rfl
      · rw [if_pos h]
        rfl
      · rw [if_pos h]
        rfl
    · rw [if_neg h]
      refine bto (r := (0 : Int32)) rfl ?_
      rcases (show s = 0 ∨ s = 1 by omega) with rfl | rfl
      · rw [if_neg h]
        rfl
      · rw [if_neg h]
        rfl
theorem e_checked_i {g s : Nat} {i1 : Int32} (hg : g ≤ 2) (hs : s ≤ 1) (hi : Bo i1) : fX9_checked_i (nI g) (nI s) i1 = some (if i1 = 0 ∨ g = 0 then (nI s, 0, i1) else (0, 1, nI s)) := by
  unfold fX9_checked_i
  rcases (show s = 0 ∨ s = 1 by omega) with rfl | rfl <;> rcases (show g = 0 ∨ g = 1 ∨ g = 2 by omega) with rfl | rfl | rfl <;> rcases hi with rfl | rfl <;> rfl
theorem e_shape_r {r k c g s : Nat} {G H : Nat → Nat → Int32} {i1 i2 i3 : Int32} (J : yJob r k c g s) : fX9_shape_r (nI r) (nI k) (nI c) r k G k c H i1 i2 i3 = some (if yVs i1 i2 i3 = true then (nI (yCount r k G + yCount k c H), 0, i1, i2, i3, i1.toNatClampNeg, i2.toNatClampNeg, yZ, i2.toNatClampNeg, i3.toNatClampNeg, yZ) else (0, 1, nI r, nI k, nI c, r, k, G, k, c, H)) := by
  obtain ⟨⟨a1, a2⟩, ⟨a3, a4⟩, ⟨a5, a6⟩, a7, a8⟩ := id J
  unfold fX9_shape_r yVs
  refine bto e_isIn ?_
  rw [yI1, yI8]
  have T : (((if yb (yIn i1 1 8) = 0 then some 1 else ((fX9_isIn i3 1 8).bind fun x_40 => (if x_40 = 0 then some 1 else ((fX9_isIn i2 1 6).bind fun x_46 => (if x_46 = 0 then some 1 else some 0))))) : Option (Int32))) = some (yb !(yIn i1 1 8 && (yIn i3 1 8 && yIn i2 1 6))) := by
    cases yIn i1 1 8
    · rfl
    · refine (if_neg (by decide)).trans ?_
      refine bto e_isIn ?_
      rw [yI1, yI8]
      cases yIn i3 1 8
      · rfl
      · refine (if_neg (by decide)).trans ?_
        refine bto e_isIn ?_
        rw [yI1, yI6, yb_not]
        rfl
  refine bto T ?_
  refine bto (e_start_r (by decide)) ?_
  cases e : (yIn i1 1 8 && (yIn i3 1 8 && yIn i2 1 6))
  · rfl
  · rw [Bool.and_eq_true, Bool.and_eq_true] at e
    have e1 := yIn_of e.1
    have e2 := yIn_of e.2.1
    have e3 := yIn_of e.2.2
    refine (if_pos rfl).trans ?_
    refine bto (e_others (by omega) (by omega)) ?_
    refine bto (e_others (by omega) (by omega)) ?_
    obtain ⟨x, hx, hp⟩ := o_X9_lay_r (i1 := i1) (i2 := i2) (i3 := i3) ⟨by omega, by omega⟩ ⟨by omega, by omega⟩ ⟨by omega, by omega⟩
    refine bto hx ?_
    rw [hp, nj_add]
    rfl
theorem e_left_r {r k : Nat} {G : Nat → Nat → Int32} {i1 i2 i3 : Int32} (h1 : 1 ≤ r) (h2 : r ≤ 9) (h3 : 1 ≤ k) (h4 : k ≤ 9) : fX9_left_r (nI r) (nI k) r k G i1 i2 i3 = some (if (yIn i1 0 (r - 1) && yIn i2 0 (k - 1)) = true then (if yIn i3 (-9) 9 = true then (G i1.toNatClampNeg i2.toNatClampNeg, 0, upg G i1.toNatClampNeg i2.toNatClampNeg i3) else (0, 2, G)) else (0, 1, G)) := by
  have f1 := nj_m1' h1 (by omega)
  have f2 := nj_m1' h3 (by omega)
  unfold fX9_left_r
  refine bto e_isIn ?_
  rw [yI0, f1]
  have T : (((if yb (yIn i1 0 (r - 1)) = 0 then some 1 else ((fX9_isIn i2 0 (nI k - 1)).bind fun x_37 => (if x_37 = 0 then some 1 else some 0))) : Option (Int32))) = some (yb !(yIn i1 0 (r - 1) && yIn i2 0 (k - 1))) := by
    cases yIn i1 0 (r - 1)
    · rfl
    · refine (if_neg (by decide)).trans ?_
      refine bto e_isIn ?_
      rw [yI0, f2, yb_not]
      rfl
  refine bto T ?_
  refine bto (e_start_r (by decide)) ?_
  cases e : (yIn i1 0 (r - 1) && yIn i2 0 (k - 1))
  · rfl
  · rw [Bool.and_eq_true] at e
    have e1 := yIn_of e.1
    have e2 := yIn_of e.2
    refine (if_pos rfl).trans ?_
    refine bto e_isIn ?_
    rw [yIm9, yI9, yb_not]
    refine bto rfl ?_
    refine bto (e_refuse_r (by decide)) ?_
    have g1 := yi_in (x := i1) (n := r) (by omega) (by omega)
    have g2 := yi_in (x := i2) (n := k) (by omega) (by omega)
    cases yIn i3 (-9) 9
    · rfl
    · refine (if_pos rfl).trans ?_
      refine (if_pos g1).trans ?_
      refine (if_pos g2).trans ?_
      refine (if_pos g1).trans ?_
      exact (if_pos g2).trans rfl
theorem e_top_r {r k : Nat} {G : Nat → Nat → Int32} {i1 i2 i3 : Int32} (h1 : 1 ≤ r) (h2 : r ≤ 9) (h3 : 1 ≤ k) (h4 : k ≤ 9) : fX9_top_r (nI r) (nI k) r k G i1 i2 i3 = some (if (yIn i1 0 (r - 1) && yIn i2 0 (k - 1)) = true then (if yIn i3 (-9) 9 = true then (G i1.toNatClampNeg i2.toNatClampNeg, 0, upg G i1.toNatClampNeg i2.toNatClampNeg i3) else (0, 2, G)) else (0, 1, G)) := e_left_r h1 h2 h3 h4
theorem e_kind_r {g s : Nat} {i1 : Int32} (hs : s ≤ 1) : fX9_kind_r (nI g) (nI s) i1 = some (if yIn i1 0 2 = true then (nI g, 0, i1, if i1 = 0 then nI s else 0) else (0, 1, nI g, nI s)) := by
  unfold fX9_kind_r
  refine bto e_isIn ?_
  rw [yI0, yI2, yb_not]
  refine bto rfl ?_
  refine bto (e_start_r (by decide)) ?_
  cases yIn i1 0 2
  · rfl
  · refine (if_pos rfl).trans ?_
    by_cases h : i1 = 0
    · rw [if_pos h]
      refine bto (r := (1 : Int32)) rfl ?_
      rcases (show s = 0 ∨ s = 1 by omega) with rfl | rfl
      · rw [if_pos h]
        rfl
      · rw [if_pos h]
        rfl
    · rw [if_neg h]
      refine bto (r := (0 : Int32)) rfl ?_
      rcases (show s = 0 ∨ s = 1 by omega) with rfl | rfl
      · rw [if_neg h]
        rfl
      · rw [if_neg h]
        rfl
theorem e_checked_r {g s : Nat} {i1 : Int32} (hg : g ≤ 2) (hs : s ≤ 1) (hi : Bo i1) : fX9_checked_r (nI g) (nI s) i1 = some (if i1 = 0 ∨ g = 0 then (nI s, 0, i1) else (0, 1, nI s)) := by
  unfold fX9_checked_r
  rcases (show s = 0 ∨ s = 1 by omega) with rfl | rfl <;> rcases (show g = 0 ∨ g = 1 ∨ g = 2 by omega) with rfl | rfl | rfl <;> rcases hi with rfl | rfl <;> rfl
theorem yat {i j : Nat} (hi : i < 9) (hj : j < 9) : nI i * 9 + nI j = nI (i * 9 + j) := by
  rw [show (9 : Int32) = nI 9 from rfl, nj_mul, nj_add]
theorem e_get {f : Nat → Int32} {i j : Nat} (hi : i < 9) (hj : j < 9) : fX4_get f (nI i) (nI j) = some (f (i * 9 + j)) := by
  unfold fX4_get
  refine (if_neg (fun z => by rw [nj_neg (by omega)] at z; exact z)).trans ?_
  refine (if_neg (fun z => by rw [show (9 : Int32) = nI 9 from rfl, nj_le (by omega) (by omega)] at z; omega)).trans ?_
  refine (if_neg (fun z => by rw [nj_neg (by omega)] at z; exact z)).trans ?_
  refine (if_pos (by rw [show (9 : Int32) = nI 9 from rfl, nj_lt (by omega) (by omega)]; omega)).trans ?_
  rw [yat hi hj]
  refine (if_pos (nj_in (by omega) (by omega))).trans ?_
  rw [nj_cl (by omega)]
theorem e_set {f : Nat → Int32} {i j : Nat} {x : Int32} (hi : i < 9) (hj : j < 9) : fX4_set f (nI i) (nI j) x = some (upd f (i * 9 + j) x) := by
  unfold fX4_set
  refine (if_neg (fun z => by rw [nj_neg (by omega)] at z; exact z)).trans ?_
  refine (if_neg (fun z => by rw [show (9 : Int32) = nI 9 from rfl, nj_le (by omega) (by omega)] at z; omega)).trans ?_
  refine (if_neg (fun z => by rw [nj_neg (by omega)] at z; exact z)).trans ?_
  refine (if_pos (by rw [show (9 : Int32) = nI 9 from rfl, nj_lt (by omega) (by omega)]; omega)).trans ?_
  rw [yat hi hj]
  refine (if_pos (nj_in (by omega) (by omega))).trans ?_
  rw [nj_cl (by omega)]
def yFl (f : Nat → Int32) (x : Int32) (n : Nat) : Nat → Int32 := fun a => if a < n then x else f a
theorem yFl_s (f : Nat → Int32) (x : Int32) (n : Nat) : upd (yFl f x n) n x = yFl f x (n + 1) := by
  funext a
  unfold upd yFl
  by_cases h : a = n
  · rw [if_pos h, if_pos (by omega)]
  · rw [if_neg h]
    exact y_ifc (by omega)
theorem e_fill {f : Nat → Int32} {x : Int32} : fX4_fill f x = some (yFl f x 81) := by
  unfold fX4_fill
  refine bto (wl_eq (fun i => (nI i, yFl f x i)) 0 81 (b := (nI 81, yFl f x 81)) ?_ (by decide) (by decide) (fun i _ hi => ?_) ?_) rfl
  · exact congrArg (Prod.mk (nI 0)) (funext fun a => (if_neg (Nat.not_lt_zero a)).symm)
  · refine (if_neg (fun z => by rw [nj_le (by omega) (by omega)] at z; omega)).trans ?_
    refine (if_pos (nj_in hi (by omega))).trans ?_
    dsimp only
    rw [nj_cl (by omega), yFl_s, nj_p1]
  · exact if_pos (Int32.le_refl _)
theorem nj_yb2 (a : Nat) (b : Bool) (x : Int32) (h : b = !decide (x = 0)) : nI a + yb b = nI (a + yN x) := by
  rw [h]
  exact nj_yb a x
def yCo (r k c : Nat) (f h : Nat → Int32) : Nat := ySm k (fun t => ySm r (fun i => yN (f (i * 9 + t))) + ySm c (fun j => yN (h (t * 9 + j))))
theorem e_countOps {r k c : Nat} {f h : Nat → Int32} (hr : r ≤ 9) (hk : k ≤ 9) (hc : c ≤ 9) : fX1_countOperands (nI r) (nI k) (nI c) f h = some (nI (yCo r k c f h)) := by
  unfold fX1_countOperands
  refine bto (wl_eq (fun t => (nI (ySm t (fun t => ySm r (fun i => yN (f (i * 9 + t))) + ySm c (fun j => yN (h (t * 9 + j))))), nI t)) 0 k (b := (nI (yCo r k c f h), nI k)) rfl (Nat.zero_le _) (by omega) (fun t _ ht => ?_) ?_) rfl
  · refine (if_neg (fun z => by rw [nj_le (by omega) (by omega)] at z; omega)).trans ?_
    dsimp only
    generalize hq : ySm t (fun t => ySm r (fun i => yN (f (i * 9 + t))) + ySm c (fun j => yN (h (t * 9 + j)))) = q
    have hQ : ySm (t + 1) (fun t => ySm r (fun i => yN (f (i * 9 + t))) + ySm c (fun j => yN (h (t * 9 + j)))) = q + (ySm r (fun i => yN (f (i * 9 + t))) + ySm c (fun j => yN (h (t * 9 + j)))) := by rw [← hq]; rfl
    rw [hQ]
    refine bto (wl_eq (fun i => (nI (q + ySm i (fun i => yN (f (i * 9 + t)))), nI i)) 0 r (b := (nI (q + ySm r (fun i => yN (f (i * 9 + t)))), nI r)) rfl (Nat.zero_le _) (by omega) (fun i _ hi => ?_) ?_) ?_
    · refine (if_neg (fun z => by rw [nj_le (by omega) (by omega)] at z; omega)).trans ?_
      refine bto (e_get (by omega) (by omega)) ?_
      rw [yb_iten]
      refine bto rfl ?_
      rw [nj_yb, nj_p1, Nat.add_assoc]
      rfl
    · exact if_pos (Int32.le_refl _)
    dsimp only
    refine bto (wl_eq (fun j => (nI (q + ySm r (fun i => yN (f (i * 9 + t))) + ySm j (fun j => yN (h (t * 9 + j)))), nI j)) 0 c (b := (nI (q + ySm r (fun i => yN (f (i * 9 + t))) + ySm c (fun j => yN (h (t * 9 + j)))), nI c)) rfl (Nat.zero_le _) (by omega) (fun j _ hj => ?_) ?_) ?_
    · refine (if_neg (fun z => by rw [nj_le (by omega) (by omega)] at z; omega)).trans ?_
      refine bto (e_get (by omega) (by omega)) ?_
      rw [yb_iten]
      refine bto rfl ?_
      rw [nj_yb, nj_p1, Nat.add_assoc]
      rfl
    · exact if_pos (Int32.le_refl _)
    · dsimp only
      rw [nj_p1, Nat.add_assoc]
  · exact if_pos (Int32.le_refl _)
theorem ySm_add (n : Nat) (f g : Nat → Nat) : ySm n (fun i => f i + g i) = ySm n f + ySm n g := by
  induction n with
  | zero => rfl
  | succ n ih =>
    show ySm n (fun i => f i + g i) + (f n + g n) = (ySm n f + f n) + (ySm n g + g n)
    omega
theorem ySm_zero (n : Nat) : ySm n (fun _ => 0) = 0 := by
  induction n with
  | zero => rfl
  | succ n ih =>
    show ySm n (fun _ => 0) + 0 = 0
    omega
theorem ySm_swap (n k : Nat) (f : Nat → Nat → Nat) : ySm n (fun i => ySm k (fun j => f i j)) = ySm k (fun j => ySm n (fun i => f i j)) := by
  induction n with
  | zero => exact (ySm_zero k).symm
  | succ n ih =>
    show ySm n (fun i => ySm k (fun j => f i j)) + ySm k (fun j => f n j) = ySm k (fun j => ySm n (fun i => f i j) + f n j)
    rw [ih, ySm_add]
theorem ySm_ext {n : Nat} {f g : Nat → Nat} (h : ∀ i, i < n → f i = g i) : ySm n f = ySm n g := by
  induction n with
  | zero => rfl
  | succ n ih =>
    show ySm n f + f n = ySm n g + g n
    rw [ih (fun i hi => h i (by omega)), h n (by omega)]
/-- a table of the class holds a grid of the reference -/
def yTG (f : Nat → Int32) (G : Nat → Nat → Int32) : Prop := ∀ i j, i < 9 → j < 9 → f (i * 9 + j) = G i j
theorem yCo_eq {r k c : Nat} {f h : Nat → Int32} {G H : Nat → Nat → Int32} (hf : yTG f G) (hh : yTG h H) (hr : r ≤ 9) (hk : k ≤ 9) (hc : c ≤ 9) : yCo r k c f h = yCount r k G + yCount k c H := by
  unfold yCo yCount
  rw [ySm_swap r k, ySm_add]
  have a1 : ySm k (fun t => ySm r (fun i => yN (f (i * 9 + t)))) = ySm k (fun j => ySm r (fun i => yN (G i j))) := ySm_ext (fun t ht => ySm_ext (fun i hi => by rw [hf i t (by omega) (by omega)]))
  have a2 : ySm k (fun t => ySm c (fun j => yN (h (t * 9 + j)))) = ySm k (fun i => ySm c (fun j => yN (H i j))) := ySm_ext (fun t ht => ySm_ext (fun i hi => by rw [hh t i (by omega) (by omega)]))
  rw [a1, a2]
theorem yTG_z {f : Nat → Int32} : yTG (yFl f 0 81) yZ := fun i j hi hj => if_pos (by omega)
theorem yTG_up {f : Nat → Int32} {G : Nat → Nat → Int32} {i j : Nat} {x : Int32} (h : yTG f G) (hi : i < 9) (hj : j < 9) : yTG (upd f (i * 9 + j) x) (upg G i j x) := by
  intro a b ha hb
  unfold upg upd
  by_cases h1 : a = i
  · by_cases h2 : b = j
    · rw [if_pos (by rw [h1, h2]), if_pos h1, if_pos h2]
    · rw [if_neg (by omega), if_pos h1, if_neg h2, h a b ha hb, h1]
  · rw [if_neg (by omega), if_neg h1]
    exact h a b ha hb
theorem e6_shape {r k c : Nat} {f h : Nat → Int32} {i1 i2 i3 : Int32} (hr : r ≤ 9) (hk : k ≤ 9) (hc : c ≤ 9) : fX6_shape (nI r) (nI k) (nI c) f h i1 i2 i3 = some (if yVs i1 i2 i3 = true then .inr (nI (yCo r k c f h), i1, i2, i3, yFl f 0 81, yFl h 0 81) else .inl 0) := by
  unfold fX6_shape yVs yIn
  by_cases c1 : i1 < 1
  · rw [if_pos c1]
    rw [yi_lt, yI1] at c1
    rw [decide_eq_false (show ¬ (1 ≤ i1.toInt ∧ i1.toInt ≤ 8) by omega)]
    rfl
  rw [if_neg c1]
  rw [yi_lt, yI1] at c1
  by_cases c2 : 8 < i1
  · rw [if_pos c2]
    rw [yi_lt, yI8] at c2
    rw [decide_eq_false (show ¬ (1 ≤ i1.toInt ∧ i1.toInt ≤ 8) by omega)]
    rfl
  rw [if_neg c2]
  rw [yi_lt, yI8] at c2
  rw [decide_eq_true (show (1 ≤ i1.toInt ∧ i1.toInt ≤ 8) by omega), Bool.true_and]
  by_cases c3 : i3 < 1
  · rw [if_pos c3]
    rw [yi_lt, yI1] at c3
    rw [decide_eq_false (show ¬ (1 ≤ i3.toInt ∧ i3.toInt ≤ 8) by omega)]
    rfl
  rw [if_neg c3]
  rw [yi_lt, yI1] at c3
  by_cases c4 : 8 < i3
  · rw [if_pos c4]
    rw [yi_lt, yI8] at c4
    rw [decide_eq_false (show ¬ (1 ≤ i3.toInt ∧ i3.toInt ≤ 8) by omega)]
    rfl
  rw [if_neg c4]
  rw [yi_lt, yI8] at c4
  rw [decide_eq_true (show (1 ≤ i3.toInt ∧ i3.toInt ≤ 8) by omega), Bool.true_and]
  by_cases c5 : i2 < 1
  · rw [if_pos c5]
    rw [yi_lt, yI1] at c5
    rw [decide_eq_false (show ¬ (1 ≤ i2.toInt ∧ i2.toInt ≤ 6) by omega)]
    rfl
  rw [if_neg c5]
  rw [yi_lt, yI1] at c5
  by_cases c6 : i2 ≤ 6
  · rw [if_pos c6]
    rw [yi_le, yI6] at c6
    rw [decide_eq_true (show (1 ≤ i2.toInt ∧ i2.toInt ≤ 6) by omega)]
    refine bto (e_countOps hr hk hc) ?_
    unfold fX1_reshape
    refine bto (bto e_fill (bto e_fill rfl)) ?_
    rfl
  · rw [if_neg c6]
    rw [yi_le, yI6] at c6
    rw [decide_eq_false (show ¬ (1 ≤ i2.toInt ∧ i2.toInt ≤ 6) by omega)]
    rfl
theorem e_isOperand {x : Int32} : fX6_isOperand x = some (yb (yIn x (-9) 9)) := by
  unfold fX6_isOperand yIn
  by_cases c1 : x < (-9)
  · rw [if_pos c1]
    rw [yi_lt, yIm9] at c1
    rw [decide_eq_false (show ¬ (-9 ≤ x.toInt ∧ x.toInt ≤ 9) by omega)]
    rfl
  rw [if_neg c1]
  rw [yi_lt, yIm9] at c1
  by_cases c2 : 9 < x
  · rw [if_pos c2]
    rw [yi_lt, yI9] at c2
    rw [decide_eq_false (show ¬ (-9 ≤ x.toInt ∧ x.toInt ≤ 9) by omega)]
    rfl
  · rw [if_neg c2]
    rw [yi_lt, yI9] at c2
    rw [decide_eq_true (show (-9 ≤ x.toInt ∧ x.toInt ≤ 9) by omega)]
    rfl
theorem e6_left {r k : Nat} {f : Nat → Int32} {i1 i2 i3 : Int32} (h1 : 1 ≤ r) (h2 : r ≤ 9) (h3 : 1 ≤ k) (h4 : k ≤ 9) : fX6_left (nI r) (nI k) f i1 i2 i3 = some (if (yIn i1 0 (r - 1) && yIn i2 0 (k - 1)) = true then (if yIn i3 (-9) 9 = true then .inr (f (i1.toNatClampNeg * 9 + i2.toNatClampNeg), upd f (i1.toNatClampNeg * 9 + i2.toNatClampNeg) i3) else .inl 0) else .inl 1) := by
  have fr := yi_nI (n := r) (by omega)
  have fk := yi_nI (n := k) (by omega)
  unfold fX6_left
  by_cases c1 : i1 < 0
  · rw [if_pos c1]
    rw [yi_lt, yI0] at c1
    rw [show yIn i1 0 (r - 1) = false from decide_eq_false (by omega)]
    rfl
  rw [if_neg c1]
  rw [yi_lt, yI0] at c1
  by_cases c2 : nI r ≤ i1
  · rw [if_pos c2]
    rw [yi_le, fr] at c2
    rw [show yIn i1 0 (r - 1) = false from decide_eq_false (by omega)]
    rfl
  rw [if_neg c2]
  rw [yi_le, fr] at c2
  rw [show yIn i1 0 (r - 1) = true from decide_eq_true (by omega), Bool.true_and]
  by_cases c3 : i2 < 0
  · rw [if_pos c3]
    rw [yi_lt, yI0] at c3
    rw [show yIn i2 0 (k - 1) = false from decide_eq_false (by omega)]
    rfl
  rw [if_neg c3]
  rw [yi_lt, yI0] at c3
  by_cases c4 : i2 < nI k
  · rw [if_pos c4]
    rw [yi_lt, fk] at c4
    rw [show yIn i2 0 (k - 1) = true from decide_eq_true (by omega), if_pos rfl]
    refine bto e_isOperand ?_
    cases yIn i3 (-9) 9
    · rfl
    · refine (if_neg (by decide)).trans ?_
      rw [if_pos rfl]
      have u1 := nj_to (x := i1) (by omega)
      have u2 := nj_to (x := i2) (by omega)
      have w1 : i1.toInt.toNat < 9 := by omega
      have w2 : i2.toInt.toNat < 9 := by omega
      generalize i1.toInt.toNat = m1 at u1 w1
      generalize i2.toInt.toNat = m2 at u2 w2
      rw [u1, u2, nj_cl (by omega), nj_cl (by omega)]
      refine bto (e_get w1 w2) ?_
      refine bto (e_set w1 w2) ?_
      rfl
  · rw [if_neg c4]
    rw [yi_lt, fk] at c4
    rw [show yIn i2 0 (k - 1) = false from decide_eq_false (by omega)]
    rfl
theorem e6_top {r k : Nat} {f : Nat → Int32} {i1 i2 i3 : Int32} (h1 : 1 ≤ r) (h2 : r ≤ 9) (h3 : 1 ≤ k) (h4 : k ≤ 9) : fX6_top (nI r) (nI k) f i1 i2 i3 = some (if (yIn i1 0 (r - 1) && yIn i2 0 (k - 1)) = true then (if yIn i3 (-9) 9 = true then .inr (f (i1.toNatClampNeg * 9 + i2.toNatClampNeg), upd f (i1.toNatClampNeg * 9 + i2.toNatClampNeg) i3) else .inl 0) else .inl 1) := e6_left h1 h2 h3 h4
theorem e6_kind {g s : Nat} {i1 : Int32} : fX6_kind (nI g) (nI s) i1 = some (if yIn i1 0 2 = true then .inr (nI g, i1, if i1 = 0 then nI s else 0) else .inl 0) := by
  unfold fX6_kind
  by_cases c1 : i1 < 0
  · rw [if_pos c1]
    rw [yi_lt, yI0] at c1
    rw [show yIn i1 0 2 = false from decide_eq_false (by omega)]
    rfl
  rw [if_neg c1]
  rw [yi_lt, yI0] at c1
  by_cases c2 : i1 ≤ 2
  · rw [if_pos c2]
    rw [yi_le, yI2] at c2
    rw [show yIn i1 0 2 = true from decide_eq_true (by omega), if_pos rfl]
    by_cases h : i1 = 0
    · rw [if_pos h, if_pos h]
    · rw [if_neg h, if_neg h]
  · rw [if_neg c2]
    rw [yi_le, yI2] at c2
    rw [show yIn i1 0 2 = false from decide_eq_false (by omega)]
    rfl
theorem e6_checked {g s : Nat} {i1 : Int32} (hg : g ≤ 2) (hs : s ≤ 1) (hi : Bo i1) : fX6_checked (nI g) (nI s) i1 = some (if i1 = 0 ∨ g = 0 then .inr (nI s, i1) else .inl 2) := by
  unfold fX6_checked
  rcases (show s = 0 ∨ s = 1 by omega) with rfl | rfl <;> rcases (show g = 0 ∨ g = 1 ∨ g = 2 by omega) with rfl | rfl | rfl <;> rcases hi with rfl | rfl <;> rfl
