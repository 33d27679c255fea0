/-! ===== the loops of the law ===== -/
theorem g_mesh0 {W : Nat} {n : Nat → Int32} {t : Nat → Nat → Int32} {r kk c g s Rn Rk : Nat} {G H B K U R : Nat → Nat → Int32} (h : yS4 W n t r kk c g s G H B K Rn Rk U R) : gX6_mesh n t 0 = some (nI r, n, t) := g_mesh h 0 (Or.inl rfl)
theorem g_mesh2 {W : Nat} {n : Nat → Int32} {t : Nat → Nat → Int32} {r kk c g s Rn Rk : Nat} {G H B K U R : Nat → Nat → Int32} (h : yS4 W n t r kk c g s G H B K Rn Rk U R) : gX6_mesh n t 2 = some (nI c, n, t) := g_mesh h 2 (Or.inr (Or.inl rfl))
theorem g_mesh4 {W : Nat} {n : Nat → Int32} {t : Nat → Nat → Int32} {r kk c g s Rn Rk : Nat} {G H B K U R : Nat → Nat → Int32} (h : yS4 W n t r kk c g s G H B K Rn Rk U R) : gX6_mesh n t 4 = some (nI s, n, t) := g_mesh h 4 (Or.inr (Or.inr rfl))
theorem l_max0 : ∀ L, L < 8 → xn_max 0 (nI L - 7) = 0 := by decide +kernel
theorem l_low : ∀ L, L < 8 → (nI L + (-7)).toInt ≤ 0 := by decide +kernel
theorem l_sub7 {L : Nat} (h : 7 ≤ L) : nI L + (-7) = nI (L - 7) := by
  rw [← Int32.sub_eq_add_neg, show (7 : Int32) = nI 7 from rfl, nj_sub h]
theorem l_max {L : Nat} (h : L < 2000) : nI (L - 7) = xn_max 0 (nI L - 7) := by
  by_cases c : L < 8
  · rw [l_max0 L c, show L - 7 = 0 by omega]
    rfl
  · unfold xn_max
    rw [show (7 : Int32) = nI 7 from rfl, nj_sub (by omega)]
    exact (if_pos (by rw [li0, nj_lt (by decide) (by omega)]; omega)).symm
theorem l_beats {W : Nat} {n : Nat → Int32} {t : Nat → Nat → Int32} {r kk c g s lr lc : Nat} {G H B : Nat → Nat → Int32} {z : yRS} {l0 : Int32} (e0 : l0 = nI (yLeft r kk c g s lr lc G H z)) (h : yU4 W n t r kk c g s G H B lr lc z) : Ok (wl (S := Int32 × (Nat → Int32) × (Nat → Nat → Int32)) (B := (Int32 × (Nat → Int32) × (Nat → Nat → Int32)) ⊕ Int32) (fun s_132 => (if s_132.1 ≤ 0 then some (.inr (.inl (s_132.1, s_132.2.1, s_132.2.2))) else ((gX6_beat s_132.2.1 s_132.2.2 7).bind fun x_232 => (if x_232.1 = (xn_max 0 (s_132.1 - 7)) then (ylet (s_132.1 + (-7) : Int32) fun y_237 => some (.inl (y_237, x_232.2.1, x_232.2.2))) else some (.inr (.inr 0)))))) yFuel (l0, n, t)) (fun o => ∃ l n2 t2, o = .inl (l, n2, t2) ∧ yE4 W n2 t2 r kk c g s G H B) := by
  have hp := yLeft_pos h.1.1 h.2.2.2.1.1 h.2.2.2.2.1
  refine Ok.lp (fun v => (∃ p, v.1 = nI (yLeft r kk c g s lr lc G H p) ∧ yU4 W v.2.1 v.2.2 r kk c g s G H B lr lc p) ∨ (v.1.toInt ≤ 0 ∧ yE4 W v.2.1 v.2.2 r kk c g s G H B)) (fun v => v.1.toInt.toNat) (fun v hv => ?_) yFuel (l0, n, t) (Or.inl ⟨z, e0, h⟩) ?_
  · obtain ⟨v0, n1, t1⟩ := v
    dsimp only at hv ⊢
    rcases hv with ⟨p, e, hu⟩ | ⟨e, he⟩
    · have pp := yLeft_pos hu.1.1 hu.2.2.2.1.1 hu.2.2.2.2.1
      subst e
      refine Ok.ite (fun w => absurd w ?_) (fun _ => ?_)
      · rw [li0, nj_le (by omega) (by decide)]
        omega
      obtain ⟨x, ex, x1, hx⟩ := g_beat hu
      refine Ok.to ex ?_
      refine Ok.ite (fun _ => ?_) (fun w => absurd (x1.trans (l_max pp.2)) w)
      rcases hx with ⟨c1, p2, c2, c3⟩ | ⟨c1, c2⟩
      · have e2 : nI (yLeft r kk c g s lr lc G H p) + (-7) = nI (yLeft r kk c g s lr lc G H p2) := by
          rw [l_sub7 (by omega)]
          exact congrArg nI (by omega)
        refine Ok.lt ?_
        refine Ok.some ⟨Or.inl ⟨p2, e2, c3⟩, ?_⟩
        show (nI (yLeft r kk c g s lr lc G H p) + (-7)).toInt.toNat < (nI (yLeft r kk c g s lr lc G H p)).toInt.toNat
        rw [e2, yi_nI (by omega), yi_nI (by omega)]
        omega
      · have e2 := l_low (yLeft r kk c g s lr lc G H p) (by omega)
        refine Ok.lt ?_
        refine Ok.some ⟨Or.inr ⟨e2, c2⟩, ?_⟩
        show (nI (yLeft r kk c g s lr lc G H p) + (-7)).toInt.toNat < (nI (yLeft r kk c g s lr lc G H p)).toInt.toNat
        rw [yi_nI (by omega)]
        omega
    · refine Ok.ite (fun _ => ?_) (fun w => absurd ?_ w)
      · exact Ok.some ⟨_, _, _, rfl, he⟩
      · rw [yi_le, yI0]
        exact e
  · show l0.toInt.toNat < 4096
    rw [e0, yi_nI (by omega)]
    omega
theorem l_inner {W : Nat} {n : Nat → Int32} {t : Nat → Nat → Int32} {r kk c g s : Nat} {G H B K U R : Nat → Nat → Int32} {i : Nat} (h : yS4 W n t r kk c g s G H B K (r + s) (c + s) U R) (hp : ∀ a b, a < r + s → b < c + s → R a b = yPlain r kk c g r G c H a b) (hi : i < r + s) : Ok (wl (S := Int32 × (Nat → Int32) × (Nat → Nat → Int32)) (B := (Int32 × (Nat → Int32) × (Nat → Nat → Int32)) ⊕ Int32) (fun s_215 => (if (nI c + nI s) ≤ s_215.1 then some (.inr (.inl (s_215.1, s_215.2.1, s_215.2.2))) else ((gX6_result s_215.2.1 s_215.2.2 (nI i) s_215.1).bind fun x_218 => ((gX6_plain x_218.2.1 x_218.2.2 (nI i) s_215.1).bind fun x_222 => (if x_218.1 = x_222.1 then some (.inl (s_215.1 + 1, x_222.2.1, x_222.2.2)) else some (.inr (.inr 0))))))) yFuel (0, n, t)) (fun o => o = .inl (nI (c + s), n, t)) := by
  have J := h.1.1
  obtain ⟨⟨a1, a2⟩, ⟨a3, a4⟩, ⟨a5, a6⟩, a7, a8⟩ := id J
  refine Ok.for (fun (j : Nat) v => v = (nI j, n, t)) 0 (c + s) rfl (Nat.zero_le _) (by omega) (fun j v _ hj hv => ?_) (fun v hv => ?_)
  · subst hv
    dsimp only
    refine Ok.ite (fun w => absurd w ?_) (fun _ => ?_)
    · rw [nj_add, nj_le (by omega) (by omega)]
      omega
    refine Ok.to (g_result h hi hj) ?_
    refine Ok.to (g_plain h hi hj) ?_
    refine Ok.ite (fun _ => ?_) (fun w => absurd (hp i j hi hj) w)
    exact Ok.some (show (nI j + 1, n, t) = (nI (j + 1), n, t) by rw [nj_p1])
  · subst hv
    dsimp only
    refine Ok.ite (fun _ => ?_) (fun w => absurd ?_ w)
    · exact Ok.some rfl
    · rw [nj_add]
      exact Int32.le_refl _
theorem l_outer {W : Nat} {n : Nat → Int32} {t : Nat → Nat → Int32} {r kk c g s : Nat} {G H B K U R : Nat → Nat → Int32} (h : yS4 W n t r kk c g s G H B K (r + s) (c + s) U R) (hp : ∀ a b, a < r + s → b < c + s → R a b = yPlain r kk c g r G c H a b) : Ok (wl (S := Int32 × (Nat → Int32) × (Nat → Nat → Int32)) (B := (Int32 × (Nat → Int32) × (Nat → Nat → Int32)) ⊕ Int32) (fun s_133 => (if (nI r + nI s) ≤ s_133.1 then some (.inr (.inl (s_133.1, s_133.2.1, s_133.2.2))) else ((wl (S := Int32 × (Nat → Int32) × (Nat → Nat → Int32)) (B := (Int32 × (Nat → Int32) × (Nat → Nat → Int32)) ⊕ Int32) (fun s_215 => (if (nI c + nI s) ≤ s_215.1 then some (.inr (.inl (s_215.1, s_215.2.1, s_215.2.2))) else ((gX6_result s_215.2.1 s_215.2.2 s_133.1 s_215.1).bind fun x_218 => ((gX6_plain x_218.2.1 x_218.2.2 s_133.1 s_215.1).bind fun x_222 => (if x_218.1 = x_222.1 then some (.inl (s_215.1 + 1, x_222.2.1, x_222.2.2)) else some (.inr (.inr 0))))))) yFuel (0, s_133.2.1, s_133.2.2)).bind fun b_215 => ybr b_215 (fun z_215 => some (.inl (s_133.1 + 1, z_215.2.1, z_215.2.2))) (fun r => some (.inr (.inr r)))))) yFuel (0, n, t)) (fun o => o = .inl (nI (r + s), n, t)) := by
  have J := h.1.1
  obtain ⟨⟨a1, a2⟩, ⟨a3, a4⟩, ⟨a5, a6⟩, a7, a8⟩ := id J
  refine Ok.for (fun (j : Nat) v => v = (nI j, n, t)) 0 (r + s) rfl (Nat.zero_le _) (by omega) (fun j v _ hj hv => ?_) (fun v hv => ?_)
  · subst hv
    dsimp only
    refine Ok.ite (fun w => absurd w ?_) (fun _ => ?_)
    · rw [nj_add, nj_le (by omega) (by omega)]
      omega
    refine Ok.bind (l_inner h hp hj) (fun b hb => ?_)
    subst hb
    exact Ok.some (show (nI j + 1, n, t) = (nI (j + 1), n, t) by rw [nj_p1])
  · subst hv
    dsimp only
    refine Ok.ite (fun _ => ?_) (fun w => absurd ?_ w)
    · exact Ok.some rfl
    · rw [nj_add]
      exact Int32.le_refl _
theorem l_tail {W q cl sl : Nat} {n : Nat → Int32} {t : Nat → Nat → Int32} {Q : (Int32 × (Nat → Int32) × (Nat → Nat → Int32) × Nat × Nat) ⊕ Int32 → Prop} (h : yC4 W n t) : Ok (if ¬ (12 : Int32) = 0 then (if ((nI q) - (nI q) / 12 * 12) = 11 then ((gX6_digest n t).bind fun x_68 => ((gX6_isSound x_68.2.1 x_68.2.2).bind fun x_72 => (if x_72.1 = 0 then some (.inr (.inr 0)) else ((gX6_digest x_72.2.1 x_72.2.2).bind fun x_78 => (if (lg_cmp x_78.1 x_68.1) = 0 then some (.inl ((nI q) + 1, x_78.2.1, x_78.2.2, cl + 1, sl + 6)) else some (.inr (.inr 0))))))) else some (.inl ((nI q) + 1, n, t, cl + 1, sl + 6))) else none) (YS (fun v => v.1 = nI (q + 1) ∧ yC4 W v.2.1 v.2.2.1 ∧ v.2.2.2.1 = cl + 1 ∧ v.2.2.2.2 = sl + 6) Q) := by
  obtain ⟨r, kk, c, g, s, G, H, B, K, Rn, Rk, U, R, hB, h⟩ := h
  refine Ok.grd (by decide) ?_
  refine Ok.ite (fun _ => ?_) (fun _ => ?_)
  · obtain ⟨x1, e1, v1, k17, k16, h1⟩ := g_digest h
    refine Ok.to e1 ?_
    obtain ⟨x2, e2, v2, j17, j16, h2⟩ := g_isSound h1
    refine Ok.to e2 ?_
    refine Ok.ite (fun w => absurd w (by rw [v2]; decide)) (fun _ => ?_)
    obtain ⟨x3, e3, v3, _, _, h3⟩ := g_digest h2
    refine Ok.to e3 ?_
    have ee : x3.1 = x1.1 := by
      rw [v3, v1, j17, j16, k17, k16]
    refine Ok.ite (fun _ => ?_) (fun w => absurd ((yCmp _ _).mpr ee) w)
    exact Ok.some ⟨nj_p1 _, ⟨r, kk, c, g, s, G, H, B, K, Rn, Rk, U, R, hB, h3⟩, rfl, rfl⟩
  · exact Ok.some ⟨nj_p1 _, ⟨r, kk, c, g, s, G, H, B, K, Rn, Rk, U, R, hB, h⟩, rfl, rfl⟩
theorem l_below2 (x : Int32) {a b : Nat} (h1 : 1 ≤ a) (h2 : a + b < 1000) : ∃ m, m < a + b ∧ fL_below x (nI a + nI b) = some (nI m) := by
  rw [nj_add]
  exact l_below x (by omega) (by omega)
theorem l_test {W q cl sl : Nat} {n : Nat → Int32} {t : Nat → Nat → Int32} {x : Int32} {Q : (Int32 × (Nat → Int32) × (Nat → Nat → Int32) × Nat × Nat) ⊕ Int32 → Prop} (h : yC4 W n t) : Ok ((gX6_test n t).bind fun x_84 => ((gX6_best x_84.2.1 x_84.2.2 0).bind fun x_88 => ((gX6_mesh x_88.2.1 x_88.2.2 0).bind fun x_92 => ((gX6_mesh x_92.2.1 x_92.2.2 4).bind fun x_96 => ((gX6_mesh x_96.2.1 x_96.2.2 2).bind fun x_100 => ((gX6_mesh x_100.2.1 x_100.2.2 4).bind fun x_104 => (if x_88.1 < 0 then (if ¬ (12 : Int32) = 0 then (if ((nI q) - (nI q) / 12 * 12) = 11 then ((gX6_digest x_104.2.1 x_104.2.2).bind fun x_111 => ((gX6_isSound x_111.2.1 x_111.2.2).bind fun x_115 => (if x_115.1 = 0 then some (.inr (.inr 0)) else ((gX6_digest x_115.2.1 x_115.2.2).bind fun x_121 => (if (lg_cmp x_121.1 x_111.1) = 0 then some (.inl ((nI q) + 1, x_121.2.1, x_121.2.2, cl + 1, sl + 6)) else some (.inr (.inr 0))))))) else some (.inl ((nI q) + 1, x_104.2.1, x_104.2.2, cl + 1, sl + 6))) else none) else ((gX6_start x_104.2.1 x_104.2.2).bind fun x_127 => (if x_127.1 = x_88.1 then ((wl (S := Int32 × (Nat → Int32) × (Nat → Nat → Int32)) (B := (Int32 × (Nat → Int32) × (Nat → Nat → Int32)) ⊕ Int32) (fun s_132 => (if s_132.1 ≤ 0 then some (.inr (.inl (s_132.1, s_132.2.1, s_132.2.2))) else ((gX6_beat s_132.2.1 s_132.2.2 7).bind fun x_232 => (if x_232.1 = (xn_max 0 (s_132.1 - 7)) then (ylet (s_132.1 + (-7) : Int32) fun y_237 => some (.inl (y_237, x_232.2.1, x_232.2.2))) else some (.inr (.inr 0)))))) yFuel (x_88.1, x_127.2.1, x_127.2.2)).bind fun b_132 => ybr b_132 (fun z_132 => ((wl (S := Int32 × (Nat → Int32) × (Nat → Nat → Int32)) (B := (Int32 × (Nat → Int32) × (Nat → Nat → Int32)) ⊕ Int32) (fun s_133 => (if (x_92.1 + x_96.1) ≤ s_133.1 then some (.inr (.inl (s_133.1, s_133.2.1, s_133.2.2))) else ((wl (S := Int32 × (Nat → Int32) × (Nat → Nat → Int32)) (B := (Int32 × (Nat → Int32) × (Nat → Nat → Int32)) ⊕ Int32) (fun s_215 => (if (x_100.1 + x_104.1) ≤ s_215.1 then some (.inr (.inl (s_215.1, s_215.2.1, s_215.2.2))) else ((gX6_result s_215.2.1 s_215.2.2 s_133.1 s_215.1).bind fun x_218 => ((gX6_plain x_218.2.1 x_218.2.2 s_133.1 s_215.1).bind fun x_222 => (if x_218.1 = x_222.1 then some (.inl (s_215.1 + 1, x_222.2.1, x_222.2.2)) else some (.inr (.inr 0))))))) yFuel (0, s_133.2.1, s_133.2.2)).bind fun b_215 => ybr b_215 (fun z_215 => some (.inl (s_133.1 + 1, z_215.2.1, z_215.2.2))) (fun r => some (.inr (.inr r)))))) yFuel (0, z_132.2.1, z_132.2.2)).bind fun b_133 => ybr b_133 (fun z_133 => ((fL_below (x >>> ((4 : Int32) &&& 31)) (x_92.1 + x_96.1)).bind fun x_134 => ((fL_below (x >>> ((6 : Int32) &&& 31)) (x_100.1 + x_104.1)).bind fun x_138 => ((gX6_mesh z_133.2.1 z_133.2.2 4).bind fun x_142 => (if x_142.1 = 1 then ((fL_below (x >>> ((5 : Int32) &&& 31)) 500).bind fun x_165 => ((gX6_bend x_142.2.1 x_142.2.2 x_134 x_138 (1 + x_165)).bind fun x_169 => ((gX6_check x_169.2.1 x_169.2.2).bind fun x_173 => (if x_173.1 = 1 then ((gX6_result x_173.2.1 x_173.2.2 x_134 x_138).bind fun x_179 => ((gX6_plain x_179.2.1 x_179.2.2 x_134 x_138).bind fun x_183 => (if x_179.1 = x_183.1 then ((gX6_check x_183.2.1 x_183.2.2).bind fun x_189 => (if x_189.1 = 0 then (if ¬ (12 : Int32) = 0 then (if ((nI q) - (nI q) / 12 * 12) = 11 then ((gX6_digest x_189.2.1 x_189.2.2).bind fun x_196 => ((gX6_isSound x_196.2.1 x_196.2.2).bind fun x_200 => (if x_200.1 = 0 then some (.inr (.inr 0)) else ((gX6_digest x_200.2.1 x_200.2.2).bind fun x_206 => (if (lg_cmp x_206.1 x_196.1) = 0 then some (.inl ((nI q) + 1, x_206.2.1, x_206.2.2, cl + 1, sl + 6)) else some (.inr (.inr 0))))))) else some (.inl ((nI q) + 1, x_189.2.1, x_189.2.2, cl + 1, sl + 6))) else none) else some (.inr (.inr 0)))) else some (.inr (.inr 0))))) else some (.inr (.inr 0)))))) else (if ¬ (12 : Int32) = 0 then (if ((nI q) - (nI q) / 12 * 12) = 11 then ((gX6_digest x_142.2.1 x_142.2.2).bind fun x_149 => ((gX6_isSound x_149.2.1 x_149.2.2).bind fun x_153 => (if x_153.1 = 0 then some (.inr (.inr 0)) else ((gX6_digest x_153.2.1 x_153.2.2).bind fun x_159 => (if (lg_cmp x_159.1 x_149.1) = 0 then some (.inl ((nI q) + 1, x_159.2.1, x_159.2.2, cl + 1, sl + 6)) else some (.inr (.inr 0))))))) else some (.inl ((nI q) + 1, x_142.2.1, x_142.2.2, cl + 1, sl + 6))) else none)))))) (fun r => some (.inr (.inr r))))) (fun r => some (.inr (.inr r)))) else some (.inr (.inr 0))))))))))) (YS (fun v => v.1 = nI (q + 1) ∧ yC4 (W + 2000) v.2.1 v.2.2.1 ∧ v.2.2.2.1 = cl + 1 ∧ v.2.2.2.2 = sl + 6) Q) := by
  obtain ⟨r, kk, c, g, s, G, H, B, K, Rn, Rk, U, R, hB, h⟩ := h
  obtain ⟨x1, e1, h1⟩ := g_test h hB
  refine Ok.to e1 ?_
  obtain ⟨x2, e2, v2, h2⟩ := g_best h1
  refine Ok.to e2 ?_
  refine Ok.to (g_mesh0 h2) ?_
  refine Ok.to (g_mesh4 h2) ?_
  refine Ok.to (g_mesh2 h2) ?_
  refine Ok.to (g_mesh4 h2) ?_
  refine Ok.ite (fun _ => ?_) (fun w => ?_)
  · exact l_tail (yC4_mono ⟨r, kk, c, g, s, G, H, B, B, Rn, Rk, U, R, hB, h2⟩ (Nat.le_add_right _ _))
  have hz : ¬ (yJb r kk c g s G H B).2.1 = 0 := fun z => w (by
    rw [v2]
    unfold yBT
    rw [if_pos z]
    decide)
  obtain ⟨x3, z, lr, lc, e3, v3, v4, h3⟩ := g_start h2 hB hz
  refine Ok.to e3 ?_
  refine Ok.ite (fun _ => ?_) (fun w2 => absurd (v3.trans (v4.trans v2.symm)) w2)
  refine Ok.bind (l_beats (v2.trans v4.symm) h3) (fun b hb => ?_)
  obtain ⟨l, n2, t2, rfl, hB2, h9, U2, R2, h5, hp⟩ := hb
  have J := h5.1.1
  have jg := h5.1.2.1
  obtain ⟨⟨a1, a2⟩, ⟨a3, a4⟩, ⟨a5, a6⟩, a7, a8⟩ := id J
  refine Ok.bind (l_outer h5 hp) (fun b hb => ?_)
  subst hb
  obtain ⟨m1, l1, f1⟩ := l_below2 (x >>> ((4 : Int32) &&& 31)) (a := r) (b := s) a1 (by omega)
  refine Ok.to f1 ?_
  obtain ⟨m2, l2, f2⟩ := l_below2 (x >>> ((6 : Int32) &&& 31)) (a := c) (b := s) a5 (by omega)
  refine Ok.to f2 ?_
  refine Ok.to (g_mesh4 h5) ?_
  refine Ok.ite (fun w => ?_) (fun _ => ?_)
  · have hs : s = 1 := by
      have w : nI s = nI 1 := w
      rw [nj_eq (by omega) (by decide)] at w
      exact w
    subst hs
    have hg := jg rfl
    subst hg
    obtain ⟨m3, l3, f3⟩ := l_below (x >>> ((5 : Int32) &&& 31)) (k := 500) (by decide) (by decide)
    refine Ok.to f3 ?_
    have sm := ySums_plain (R := R2) (fun i j hi hj => hp i j hi hj)
    have ed : 1 + nI m3 = nI (1 + m3) := by rw [li1, nj_add]
    have d1 : yIn (1 + nI m3) (-999) 999 = true := decide_eq_true (by rw [ed, yi_nI (by omega)]; omega)
    have d2 : 1 + nI m3 ≠ 0 := fun z => by
      rw [ed, li0, nj_eq (by omega) (by decide)] at z
      omega
    obtain ⟨x4, e4, v5, h6⟩ := g_bend h5 l1 l2 d1
    refine Ok.to e4 ?_
    obtain ⟨x5, e5, v6, v7, h7⟩ := g_check1 h6 (by rw [v5]; exact h9) sm l1 l2 d2
    refine Ok.to e5 ?_
    refine Ok.ite (fun _ => ?_) (fun w2 => absurd v6 w2)
    refine Ok.to (g_result h7 l1 l2) ?_
    refine Ok.to (g_plain h7 l1 l2) ?_
    refine Ok.ite (fun _ => ?_) (fun w2 => absurd (hp m1 m2 l1 l2) w2)
    obtain ⟨x6, e6, v8, h8⟩ := g_check0 h7 (by rw [v7, v5]; exact h9) (by omega) sm
    refine Ok.to e6 ?_
    refine Ok.ite (fun _ => ?_) (fun w2 => absurd v8 w2)
    exact l_tail ⟨r, kk, c, 0, 1, G, H, B, B, r + 1, c + 1, U2, R2, hB, h8⟩
  · exact l_tail ⟨r, kk, c, g, s, G, H, B, B, r + s, c + s, U2, R2, hB, h5⟩
