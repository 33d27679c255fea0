/-! ===== the reference's world ===== -/
def yMo (m : Nat → Int32) (k : Nat → Nat) (r kk c g s : Nat) : Prop := m 8 = nI r ∧ m 9 = nI kk ∧ m 10 = nI c ∧ m 11 = nI g ∧ m 12 = nI s ∧ k 0 = r ∧ k 1 = kk ∧ k 2 = kk ∧ k 3 = c
def yMr (m : Nat → Int32) (k : Nat → Nat) (G : Nat → Nat → Nat → Int32) (r kk c g s lr lc ti go : Nat) : Prop := yJob r kk c g s ∧ yLay lr lc ∧ (m 13 = nI r ∧ m 14 = nI kk ∧ m 15 = nI c ∧ m 16 = nI g ∧ m 17 = nI s) ∧ (m 3 = nI lr ∧ m 4 = nI lc ∧ m 5 = nI ti ∧ m 6 = nI go) ∧ (k 8 = r ∧ k 9 = kk ∧ k 10 = kk ∧ k 11 = c) ∧ ti < yNt r c s lr lc ∧ go < yTb r c s lr lc (yJst r kk c g (G 8) (G 9)) ti ∧ (ti = 0 ∨ (k 6 = r + s ∧ k 7 = c + s))
def yMw (sh : Nat) (m : Nat → Int32) (k : Nat → Nat) (G : Nat → Nat → Nat → Int32) (r kk c g s : Nat) : Prop := yJob r kk c g s ∧ yMo m k r kk c g s ∧ BG (G 2) ∧ BG (G 3) ∧ k 4 ≤ 9 ∧ k 5 ≤ 9 ∧ (2 ≤ sh → ∃ r2 k2 c2 g2 s2 lr lc ti go, yMr m k G r2 k2 c2 g2 s2 lr lc ti go)
theorem yMw_0 {sh r kk c g s : Nat} {m : Nat → Int32} {k : Nat → Nat} {G : Nat → Nat → Nat → Int32} {x : Int32} (h : yMw sh m k G r kk c g s) : yMw sh (va_up m 0 x) k G r kk c g s := by
  obtain ⟨J, M, b1, b2, q4, q5, hr⟩ := h
  refine ⟨J, M, b1, b2, q4, q5, fun z => ?_⟩
  obtain ⟨r2, k2, c2, g2, s2, lr, lc, ti, go, R⟩ := hr z
  exact ⟨r2, k2, c2, g2, s2, lr, lc, ti, go, R⟩
theorem yMw_2 {z r kk c g s : Nat} {m : Nat → Int32} {k : Nat → Nat} {G : Nat → Nat → Nat → Int32} (h : yMw (z + 2) m k G r kk c g s) : yMw 2 m k G r kk c g s := by
  obtain ⟨J, M, b1, b2, q4, q5, hr⟩ := h
  exact ⟨J, M, b1, b2, q4, q5, fun _ => hr (by omega)⟩
theorem e_beat_i {i1 : Int32} : fX9_beat_i i1 = some (0, if yIn i1 1 300 = true then 2 else 1) := by
  have e3 : Int32.toInt 300 = 300 := by decide
  unfold fX9_beat_i
  refine bto e_isIn ?_
  rw [yI1, e3, yb_not]
  refine bto rfl ?_
  refine bto (e_start_i (by decide)) ?_
  cases yIn i1 1 300
  · rfl
  · refine (if_pos rfl).trans ?_
    refine bto (e_refuse_i (by decide)) ?_
    rfl
theorem yRun_inv {r k c g s lr lc : Nat} {G H B : Nat → Nat → Int32} {z : yRS} (J : yJob r k c g s) (Y : yLay lr lc) (h : yRI r k c g s lr lc (ySt k (yIdle g r G c H)) z) (n : Nat) : (∀ q, yRun r k c g s lr lc G H B z n = .inl q → yRI r k c g s lr lc (ySt k (yIdle g r G c H)) q) ∧ ∀ q, yRun r k c g s lr lc G H B z n = .inr q → q.2.2.2.2.2.2.1 = r + s ∧ q.2.2.2.2.2.2.2.1 = c + s := by
  induction n with
  | zero => exact ⟨fun q e => by cases e; exact h, fun q e => by cases e⟩
  | succ n ih =>
    have e0 : yRun r k c g s lr lc G H B z (n + 1) = (match yRun r k c g s lr lc G H B z n with
      | .inl q => yOneZ r k c g s lr lc G H B q
      | .inr q => .inr q) := rfl
    rw [e0]
    cases e : yRun r k c g s lr lc G H B z n with
    | inl p =>
      rcases yOne_inv (B := B) J Y (ih.1 p e) with ⟨q2, f1, f2, f3⟩ | ⟨q2, f1, f2, f3, -, -⟩
      · refine ⟨fun q w => ?_, fun q w => ?_⟩
        · have w := f1.symm.trans w
          cases w
          exact f2
        · have w := f1.symm.trans w
          cases w
      · refine ⟨fun q w => ?_, fun q w => ?_⟩
        · have w := f1.symm.trans w
          cases w
        · have w := f1.symm.trans w
          cases w
          exact ⟨f2, f3⟩
    | inr p =>
      refine ⟨fun q w => ?_, fun q w => ?_⟩
      · cases w
      · cases w
        exact ih.2 p e
theorem yJb_lay {r k c g s : Nat} {G H K : Nat → Nat → Int32} (J : yJob r k c g s) (h : ¬ (yJb r k c g s G H K).2.1 = 0) : yLay (yJb r k c g s G H K).2.1 (yJb r k c g s G H K).2.2 := by
  obtain ⟨x, hx, hp⟩ := e_bestJ (G := G) (H := H) (K := K) J
  rcases hp with ⟨h1, h2⟩ | ⟨h1, h2, h3, h4, h5, h6, h7⟩
  · exact absurd h1 h
  · exact ⟨⟨h1, h2⟩, h3, h4⟩
theorem og9_mesh {sh r kk c g s : Nat} {m : Nat → Int32} {L : Int64} {k : Nat → Nat} {G : Nat → Nat → Nat → Int32} {i1 : Int32} (h : yMw sh m k G r kk c g s) : Ok (gX9w_mesh sh m L k G i1) (fun o => yMw o.2.1 o.2.2.1 o.2.2.2.2.1 o.2.2.2.2.2 r kk c g s ∧ o.2.2.2.2.2 0 = G 0 ∧ o.2.2.2.2.2 1 = G 1) := by
  obtain ⟨J, ⟨h8, h9, h10, h11, h12, q0, q1, q2, q3⟩, b1, b2, q4, q5, hr⟩ := id h
  match sh, h, hr with
  | 0, h, hr =>
    unfold gX9w_mesh
    dsimp only
    try simp only [h8, h9, h10, h11, h12, q0, q1, q2, q3]
    refine Ok.to (e_mesh_i J q4) ?_
    exact Ok.some ⟨yMw_0 h, rfl, rfl⟩
  | 1, h, hr =>
    unfold gX9w_mesh
    dsimp only
    try simp only [h8, h9, h10, h11, h12, q0, q1, q2, q3]
    refine Ok.to (e_mesh_i J q4) ?_
    exact Ok.some ⟨yMw_0 h, rfl, rfl⟩
  | z + 2, h, hr =>
    obtain ⟨r2, k2, c2, g2, s2, lr, lc, ti, go, J2, Y, ⟨h13, h14, h15, h16, h17⟩, ⟨h3, h4, h5, h6⟩, ⟨q8, q9, q10, q11⟩, ht, hg, hD⟩ := hr (by omega)
    unfold gX9w_mesh
    dsimp only
    try simp only [h8, h9, h10, h11, h12, q0, q1, q2, q3, h13, h14, h15, h16, h17, h3, h4, h5, h6, q8, q9, q10, q11]
    refine Ok.to (e_mesh_r J q4 J2 Y ht hg) ?_
    exact Ok.some ⟨yMw_0 (yMw_2 h), rfl, rfl⟩
theorem og9_ofCell {sh r kk c g s : Nat} {m : Nat → Int32} {L : Int64} {k : Nat → Nat} {G : Nat → Nat → Nat → Int32} {i1 : Int32} {i2 : Int32} {i3 : Int32} (h : yMw sh m k G r kk c g s) : Ok (gX9w_ofCell sh m L k G i1 i2 i3) (fun o => yMw o.2.1 o.2.2.1 o.2.2.2.2.1 o.2.2.2.2.2 r kk c g s ∧ o.2.2.2.2.2 0 = G 0 ∧ o.2.2.2.2.2 1 = G 1) := by
  obtain ⟨J, ⟨h8, h9, h10, h11, h12, q0, q1, q2, q3⟩, b1, b2, q4, q5, hr⟩ := id h
  match sh, h, hr with
  | 0, h, hr =>
    unfold gX9w_ofCell
    dsimp only
    try simp only [h8, h9, h10, h11, h12, q0, q1, q2, q3]
    refine Ok.bind e_ofCell_i (fun _ _ => ?_)
    exact Ok.some ⟨yMw_0 h, rfl, rfl⟩
  | 1, h, hr =>
    unfold gX9w_ofCell
    dsimp only
    try simp only [h8, h9, h10, h11, h12, q0, q1, q2, q3]
    refine Ok.bind e_ofCell_i (fun _ _ => ?_)
    exact Ok.some ⟨yMw_0 h, rfl, rfl⟩
  | z + 2, h, hr =>
    obtain ⟨r2, k2, c2, g2, s2, lr, lc, ti, go, J2, Y, ⟨h13, h14, h15, h16, h17⟩, ⟨h3, h4, h5, h6⟩, ⟨q8, q9, q10, q11⟩, ht, hg, hD⟩ := hr (by omega)
    unfold gX9w_ofCell
    dsimp only
    try simp only [h8, h9, h10, h11, h12, q0, q1, q2, q3, h13, h14, h15, h16, h17, h3, h4, h5, h6, q8, q9, q10, q11]
    have gg := yGeo J2 Y
    have tb := yTb_of (st := yJst r2 k2 c2 g2 (G 8) (G 9)) J2 Y ht (yJst_of (G 8) (G 9) J2).1 (by have := (yJst_of (G 8) (G 9) J2).2; have := J2.2.1.2; omega)
    refine Ok.bind (e_ofCell_r J2 Y ht (by omega)) (fun _ _ => ?_)
    exact Ok.some ⟨yMw_0 (yMw_2 h), rfl, rfl⟩
theorem og9_result {sh r kk c g s : Nat} {m : Nat → Int32} {L : Int64} {k : Nat → Nat} {G : Nat → Nat → Nat → Int32} {i1 : Int32} {i2 : Int32} (h : yMw sh m k G r kk c g s) : Ok (gX9w_result sh m L k G i1 i2) (fun o => yMw o.2.1 o.2.2.1 o.2.2.2.2.1 o.2.2.2.2.2 r kk c g s ∧ o.2.2.2.2.2 0 = G 0 ∧ o.2.2.2.2.2 1 = G 1) := by
  obtain ⟨J, ⟨h8, h9, h10, h11, h12, q0, q1, q2, q3⟩, b1, b2, q4, q5, hr⟩ := id h
  match sh, h, hr with
  | 0, h, hr =>
    unfold gX9w_result
    dsimp only
    try simp only [h8, h9, h10, h11, h12, q0, q1, q2, q3]
    refine Ok.bind (o_X9_result_i q4 q5) (fun _ _ => ?_)
    exact Ok.some ⟨yMw_0 h, rfl, rfl⟩
  | 1, h, hr =>
    unfold gX9w_result
    dsimp only
    try simp only [h8, h9, h10, h11, h12, q0, q1, q2, q3]
    refine Ok.bind (o_X9_result_i q4 q5) (fun _ _ => ?_)
    exact Ok.some ⟨yMw_0 h, rfl, rfl⟩
  | z + 2, h, hr =>
    obtain ⟨r2, k2, c2, g2, s2, lr, lc, ti, go, J2, Y, ⟨h13, h14, h15, h16, h17⟩, ⟨h3, h4, h5, h6⟩, ⟨q8, q9, q10, q11⟩, ht, hg, hD⟩ := hr (by omega)
    unfold gX9w_result
    dsimp only
    try simp only [h8, h9, h10, h11, h12, q0, q1, q2, q3, h13, h14, h15, h16, h17, h3, h4, h5, h6, q8, q9, q10, q11]
    refine Ok.bind (o_X9_result_r q4 q5) (fun _ _ => ?_)
    exact Ok.some ⟨yMw_0 (yMw_2 h), rfl, rfl⟩
theorem og9_plain {sh r kk c g s : Nat} {m : Nat → Int32} {L : Int64} {k : Nat → Nat} {G : Nat → Nat → Nat → Int32} {i1 : Int32} {i2 : Int32} (h : yMw sh m k G r kk c g s) : Ok (gX9w_plain sh m L k G i1 i2) (fun o => yMw o.2.1 o.2.2.1 o.2.2.2.2.1 o.2.2.2.2.2 r kk c g s ∧ o.2.2.2.2.2 0 = G 0 ∧ o.2.2.2.2.2 1 = G 1) := by
  obtain ⟨J, ⟨h8, h9, h10, h11, h12, q0, q1, q2, q3⟩, b1, b2, q4, q5, hr⟩ := id h
  match sh, h, hr with
  | 0, h, hr =>
    unfold gX9w_plain
    dsimp only
    try simp only [h8, h9, h10, h11, h12, q0, q1, q2, q3]
    refine Ok.to (e_plain_i J) ?_
    exact Ok.some ⟨yMw_0 h, rfl, rfl⟩
  | 1, h, hr =>
    unfold gX9w_plain
    dsimp only
    try simp only [h8, h9, h10, h11, h12, q0, q1, q2, q3]
    refine Ok.to (e_plain_i J) ?_
    exact Ok.some ⟨yMw_0 h, rfl, rfl⟩
  | z + 2, h, hr =>
    obtain ⟨r2, k2, c2, g2, s2, lr, lc, ti, go, J2, Y, ⟨h13, h14, h15, h16, h17⟩, ⟨h3, h4, h5, h6⟩, ⟨q8, q9, q10, q11⟩, ht, hg, hD⟩ := hr (by omega)
    unfold gX9w_plain
    dsimp only
    try simp only [h8, h9, h10, h11, h12, q0, q1, q2, q3, h13, h14, h15, h16, h17, h3, h4, h5, h6, q8, q9, q10, q11]
    refine Ok.to (e_plain_r J) ?_
    exact Ok.some ⟨yMw_0 (yMw_2 h), rfl, rfl⟩
theorem og9_beats {sh r kk c g s : Nat} {m : Nat → Int32} {L : Int64} {k : Nat → Nat} {G : Nat → Nat → Nat → Int32} {i1 : Int32} {i2 : Int32} (h : yMw sh m k G r kk c g s) : Ok (gX9w_beats sh m L k G i1 i2) (fun o => yMw o.2.1 o.2.2.1 o.2.2.2.2.1 o.2.2.2.2.2 r kk c g s ∧ o.2.2.2.2.2 0 = G 0 ∧ o.2.2.2.2.2 1 = G 1) := by
  obtain ⟨J, ⟨h8, h9, h10, h11, h12, q0, q1, q2, q3⟩, b1, b2, q4, q5, hr⟩ := id h
  match sh, h, hr with
  | 0, h, hr =>
    unfold gX9w_beats
    dsimp only
    try simp only [h8, h9, h10, h11, h12, q0, q1, q2, q3]
    refine Ok.to (e_beats_i J) ?_
    exact Ok.some ⟨yMw_0 h, rfl, rfl⟩
  | 1, h, hr =>
    unfold gX9w_beats
    dsimp only
    try simp only [h8, h9, h10, h11, h12, q0, q1, q2, q3]
    refine Ok.to (e_beats_i J) ?_
    exact Ok.some ⟨yMw_0 h, rfl, rfl⟩
  | z + 2, h, hr =>
    obtain ⟨r2, k2, c2, g2, s2, lr, lc, ti, go, J2, Y, ⟨h13, h14, h15, h16, h17⟩, ⟨h3, h4, h5, h6⟩, ⟨q8, q9, q10, q11⟩, ht, hg, hD⟩ := hr (by omega)
    unfold gX9w_beats
    dsimp only
    try simp only [h8, h9, h10, h11, h12, q0, q1, q2, q3, h13, h14, h15, h16, h17, h3, h4, h5, h6, q8, q9, q10, q11]
    refine Ok.to (e_beats_r J) ?_
    exact Ok.some ⟨yMw_0 (yMw_2 h), rfl, rfl⟩
theorem og9_best {sh r kk c g s : Nat} {m : Nat → Int32} {L : Int64} {k : Nat → Nat} {G : Nat → Nat → Nat → Int32} {i1 : Int32} (h : yMw sh m k G r kk c g s) : Ok (gX9w_best sh m L k G i1) (fun o => yMw o.2.1 o.2.2.1 o.2.2.2.2.1 o.2.2.2.2.2 r kk c g s ∧ o.2.2.2.2.2 0 = G 0 ∧ o.2.2.2.2.2 1 = G 1) := by
  obtain ⟨J, ⟨h8, h9, h10, h11, h12, q0, q1, q2, q3⟩, b1, b2, q4, q5, hr⟩ := id h
  match sh, h, hr with
  | 0, h, hr =>
    unfold gX9w_best
    dsimp only
    try simp only [h8, h9, h10, h11, h12, q0, q1, q2, q3]
    refine Ok.to (e_best_i J) ?_
    exact Ok.some ⟨yMw_0 h, rfl, rfl⟩
  | 1, h, hr =>
    unfold gX9w_best
    dsimp only
    try simp only [h8, h9, h10, h11, h12, q0, q1, q2, q3]
    refine Ok.to (e_best_i J) ?_
    exact Ok.some ⟨yMw_0 h, rfl, rfl⟩
  | z + 2, h, hr =>
    obtain ⟨r2, k2, c2, g2, s2, lr, lc, ti, go, J2, Y, ⟨h13, h14, h15, h16, h17⟩, ⟨h3, h4, h5, h6⟩, ⟨q8, q9, q10, q11⟩, ht, hg, hD⟩ := hr (by omega)
    unfold gX9w_best
    dsimp only
    try simp only [h8, h9, h10, h11, h12, q0, q1, q2, q3, h13, h14, h15, h16, h17, h3, h4, h5, h6, q8, q9, q10, q11]
    refine Ok.to (e_best_r J) ?_
    exact Ok.some ⟨yMw_0 (yMw_2 h), rfl, rfl⟩
theorem og9_saved {sh r kk c g s : Nat} {m : Nat → Int32} {L : Int64} {k : Nat → Nat} {G : Nat → Nat → Nat → Int32}  (h : yMw sh m k G r kk c g s) : Ok (gX9w_saved sh m L k G ) (fun o => yMw o.2.1 o.2.2.1 o.2.2.2.2.1 o.2.2.2.2.2 r kk c g s ∧ o.2.2.2.2.2 0 = G 0 ∧ o.2.2.2.2.2 1 = G 1) := by
  obtain ⟨J, ⟨h8, h9, h10, h11, h12, q0, q1, q2, q3⟩, b1, b2, q4, q5, hr⟩ := id h
  match sh, h, hr with
  | 0, h, hr =>
    unfold gX9w_saved
    dsimp only
    try simp only [h8, h9, h10, h11, h12, q0, q1, q2, q3]
    refine Ok.to (e_saved_i J) ?_
    exact Ok.some ⟨yMw_0 h, rfl, rfl⟩
  | 1, h, hr =>
    unfold gX9w_saved
    dsimp only
    try simp only [h8, h9, h10, h11, h12, q0, q1, q2, q3]
    refine Ok.to (e_saved_i J) ?_
    exact Ok.some ⟨yMw_0 h, rfl, rfl⟩
  | z + 2, h, hr =>
    obtain ⟨r2, k2, c2, g2, s2, lr, lc, ti, go, J2, Y, ⟨h13, h14, h15, h16, h17⟩, ⟨h3, h4, h5, h6⟩, ⟨q8, q9, q10, q11⟩, ht, hg, hD⟩ := hr (by omega)
    unfold gX9w_saved
    dsimp only
    try simp only [h8, h9, h10, h11, h12, q0, q1, q2, q3, h13, h14, h15, h16, h17, h3, h4, h5, h6, q8, q9, q10, q11]
    refine Ok.to (e_saved_r J) ?_
    exact Ok.some ⟨yMw_0 (yMw_2 h), rfl, rfl⟩
theorem og9_isSound {sh r kk c g s : Nat} {m : Nat → Int32} {L : Int64} {k : Nat → Nat} {G : Nat → Nat → Nat → Int32}  (h : yMw sh m k G r kk c g s) : Ok (gX9w_isSound sh m L k G ) (fun o => yMw o.2.1 o.2.2.1 o.2.2.2.2.1 o.2.2.2.2.2 r kk c g s ∧ o.2.2.2.2.2 0 = G 0 ∧ o.2.2.2.2.2 1 = G 1) := by
  obtain ⟨J, ⟨h8, h9, h10, h11, h12, q0, q1, q2, q3⟩, b1, b2, q4, q5, hr⟩ := id h
  match sh, h, hr with
  | 0, h, hr =>
    unfold gX9w_isSound
    dsimp only
    try simp only [h8, h9, h10, h11, h12, q0, q1, q2, q3]
    refine Ok.to (e_isSound_i J) ?_
    exact Ok.some ⟨yMw_0 h, rfl, rfl⟩
  | 1, h, hr =>
    unfold gX9w_isSound
    dsimp only
    try simp only [h8, h9, h10, h11, h12, q0, q1, q2, q3]
    refine Ok.to (e_isSound_i J) ?_
    exact Ok.some ⟨yMw_0 h, rfl, rfl⟩
  | z + 2, h, hr =>
    obtain ⟨r2, k2, c2, g2, s2, lr, lc, ti, go, J2, Y, ⟨h13, h14, h15, h16, h17⟩, ⟨h3, h4, h5, h6⟩, ⟨q8, q9, q10, q11⟩, ht, hg, hD⟩ := hr (by omega)
    unfold gX9w_isSound
    dsimp only
    try simp only [h8, h9, h10, h11, h12, q0, q1, q2, q3, h13, h14, h15, h16, h17, h3, h4, h5, h6, q8, q9, q10, q11]
    refine Ok.to (e_isSound_r J J2 Y ht hg) ?_
    exact Ok.some ⟨yMw_0 (yMw_2 h), rfl, rfl⟩
theorem og9_digest {sh r kk c g s : Nat} {m : Nat → Int32} {L : Int64} {k : Nat → Nat} {G : Nat → Nat → Nat → Int32}  (h : yMw sh m k G r kk c g s) : Ok (gX9w_digest sh m L k G ) (fun o => yMw o.2.1 o.2.2.1 o.2.2.2.2.1 o.2.2.2.2.2 r kk c g s ∧ o.2.2.2.2.2 0 = G 0 ∧ o.2.2.2.2.2 1 = G 1) := by
  obtain ⟨J, ⟨h8, h9, h10, h11, h12, q0, q1, q2, q3⟩, b1, b2, q4, q5, hr⟩ := id h
  match sh, h, hr with
  | 0, h, hr =>
    unfold gX9w_digest
    dsimp only
    try simp only [h8, h9, h10, h11, h12, q0, q1, q2, q3]
    refine Ok.to (e_digest_i J q4 q5) ?_
    exact Ok.some ⟨yMw_0 h, rfl, rfl⟩
  | 1, h, hr =>
    unfold gX9w_digest
    dsimp only
    try simp only [h8, h9, h10, h11, h12, q0, q1, q2, q3]
    refine Ok.to (e_digest_i J q4 q5) ?_
    exact Ok.some ⟨yMw_0 h, rfl, rfl⟩
  | z + 2, h, hr =>
    obtain ⟨r2, k2, c2, g2, s2, lr, lc, ti, go, J2, Y, ⟨h13, h14, h15, h16, h17⟩, ⟨h3, h4, h5, h6⟩, ⟨q8, q9, q10, q11⟩, ht, hg, hD⟩ := hr (by omega)
    unfold gX9w_digest
    dsimp only
    try simp only [h8, h9, h10, h11, h12, q0, q1, q2, q3, h13, h14, h15, h16, h17, h3, h4, h5, h6, q8, q9, q10, q11]
    refine Ok.to (e_digest_r J q4 q5 J2 Y ht hg) ?_
    exact Ok.some ⟨yMw_0 (yMw_2 h), rfl, rfl⟩
theorem yMw_6 {sh r kk c g s : Nat} {m : Nat → Int32} {k : Nat → Nat} {G : Nat → Nat → Nat → Int32} {x : Int32} {R : Nat → Nat → Int32} (h : yMw sh m k G r kk c g s) : yMw sh (va_up m 0 x) k (va_up G 6 R) r kk c g s := by
  obtain ⟨J, M, b1, b2, q4, q5, hr⟩ := h
  refine ⟨J, M, b1, b2, q4, q5, fun z => ?_⟩
  obtain ⟨r2, k2, c2, g2, s2, lr, lc, ti, go, R⟩ := hr z
  exact ⟨r2, k2, c2, g2, s2, lr, lc, ti, go, R⟩
theorem yMw_3 {sh r kk c g s : Nat} {m : Nat → Int32} {k : Nat → Nat} {G : Nat → Nat → Nat → Int32} {x : Int32} {K : Nat → Nat → Int32} (h : yMw sh m k G r kk c g s) (hK : BG K) : yMw sh (va_up m 0 x) k (va_up G 3 K) r kk c g s := by
  obtain ⟨J, M, b1, b2, q4, q5, hr⟩ := h
  refine ⟨J, M, b1, hK, q4, q5, fun z => ?_⟩
  obtain ⟨r2, k2, c2, g2, s2, lr, lc, ti, go, R⟩ := hr z
  exact ⟨r2, k2, c2, g2, s2, lr, lc, ti, go, R⟩
theorem yMw_23 {sh r kk c g s : Nat} {m : Nat → Int32} {k : Nat → Nat} {G : Nat → Nat → Nat → Int32} {x : Int32} {B K : Nat → Nat → Int32} (h : yMw sh m k G r kk c g s) (hB : BG B) (hK : BG K) : yMw sh (va_up m 0 x) k (va_up (va_up G 2 B) 3 K) r kk c g s := by
  obtain ⟨J, M, b1, b2, q4, q5, hr⟩ := h
  refine ⟨J, M, hB, hK, q4, q5, fun z => ?_⟩
  obtain ⟨r2, k2, c2, g2, s2, lr, lc, ti, go, R⟩ := hr z
  exact ⟨r2, k2, c2, g2, s2, lr, lc, ti, go, R⟩
theorem yTop_bg {n : Nat} {B K : Nat → Nat → Int32} (hB : BG B) (hK : BG K) : BG (yTop n B K) := by
  intro i j
  unfold yTop
  by_cases h : i < n
  · rw [if_pos h]; exact hB i j
  · rw [if_neg h]; exact hK i j
theorem og9_bend {sh r kk c g s : Nat} {m : Nat → Int32} {L : Int64} {k : Nat → Nat} {G : Nat → Nat → Nat → Int32} {i1 : Int32} {i2 : Int32} {i3 : Int32} (h : yMw sh m k G r kk c g s) : Ok (gX9w_bend sh m L k G i1 i2 i3) (fun o => yMw o.2.1 o.2.2.1 o.2.2.2.2.1 o.2.2.2.2.2 r kk c g s ∧ o.2.2.2.2.2 0 = G 0 ∧ o.2.2.2.2.2 1 = G 1) := by
  obtain ⟨J, ⟨h8, h9, h10, h11, h12, q0, q1, q2, q3⟩, b1, b2, q4, q5, hr⟩ := id h
  match sh, h, hr with
  | 0, h, hr =>
    unfold gX9w_bend
    dsimp only
    try simp only [h8, h9, h10, h11, h12, q0, q1, q2, q3]
    refine Ok.bind (o_X9_bend_i q4 q5) (fun _ _ => ?_)
    exact Ok.some ⟨yMw_6 h, rfl, rfl⟩
  | 1, h, hr =>
    unfold gX9w_bend
    dsimp only
    try simp only [h8, h9, h10, h11, h12, q0, q1, q2, q3]
    refine Ok.bind (o_X9_bend_i q4 q5) (fun _ _ => ?_)
    exact Ok.some ⟨yMw_6 h, rfl, rfl⟩
  | z + 2, h, hr =>
    obtain ⟨r2, k2, c2, g2, s2, lr, lc, ti, go, J2, Y, ⟨h13, h14, h15, h16, h17⟩, ⟨h3, h4, h5, h6⟩, ⟨q8, q9, q10, q11⟩, ht, hg, hD⟩ := hr (by omega)
    unfold gX9w_bend
    dsimp only
    try simp only [h8, h9, h10, h11, h12, q0, q1, q2, q3, h13, h14, h15, h16, h17, h3, h4, h5, h6, q8, q9, q10, q11]
    refine Ok.bind (o_X9_bend_r q4 q5) (fun _ _ => ?_)
    exact Ok.some ⟨yMw_6 (yMw_2 h), rfl, rfl⟩
theorem og9_check {sh r kk c g s : Nat} {m : Nat → Int32} {L : Int64} {k : Nat → Nat} {G : Nat → Nat → Nat → Int32}  (h : yMw sh m k G r kk c g s) : Ok (gX9w_check sh m L k G ) (fun o => yMw o.2.1 o.2.2.1 o.2.2.2.2.1 o.2.2.2.2.2 r kk c g s ∧ o.2.2.2.2.2 0 = G 0 ∧ o.2.2.2.2.2 1 = G 1) := by
  obtain ⟨J, ⟨h8, h9, h10, h11, h12, q0, q1, q2, q3⟩, b1, b2, q4, q5, hr⟩ := id h
  match sh, h, hr with
  | 0, h, hr =>
    unfold gX9w_check
    dsimp only
    try simp only [h8, h9, h10, h11, h12, q0, q1, q2, q3]
    refine Ok.bind (o_X9_check_i q4 q5) (fun _ _ => ?_)
    exact Ok.some ⟨yMw_6 h, rfl, rfl⟩
  | 1, h, hr =>
    unfold gX9w_check
    dsimp only
    try simp only [h8, h9, h10, h11, h12, q0, q1, q2, q3]
    refine Ok.bind (o_X9_check_i q4 q5) (fun _ _ => ?_)
    exact Ok.some ⟨yMw_6 h, rfl, rfl⟩
  | z + 2, h, hr =>
    obtain ⟨r2, k2, c2, g2, s2, lr, lc, ti, go, J2, Y, ⟨h13, h14, h15, h16, h17⟩, ⟨h3, h4, h5, h6⟩, ⟨q8, q9, q10, q11⟩, ht, hg, hD⟩ := hr (by omega)
    unfold gX9w_check
    dsimp only
    try simp only [h8, h9, h10, h11, h12, q0, q1, q2, q3, h13, h14, h15, h16, h17, h3, h4, h5, h6, q8, q9, q10, q11]
    refine Ok.bind (o_X9_check_r q4 q5) (fun _ _ => ?_)
    exact Ok.some ⟨yMw_6 (yMw_2 h), rfl, rfl⟩
theorem og9_test {sh r kk c g s : Nat} {m : Nat → Int32} {L : Int64} {k : Nat → Nat} {G : Nat → Nat → Nat → Int32}  (h : yMw sh m k G r kk c g s) : Ok (gX9w_test sh m L k G ) (fun o => yMw o.2.1 o.2.2.1 o.2.2.2.2.1 o.2.2.2.2.2 r kk c g s ∧ o.2.2.2.2.2 0 = G 0 ∧ o.2.2.2.2.2 1 = G 1) := by
  obtain ⟨J, ⟨h8, h9, h10, h11, h12, q0, q1, q2, q3⟩, b1, b2, q4, q5, hr⟩ := id h
  match sh, h, hr with
  | 0, h, hr =>
    unfold gX9w_test
    dsimp only
    try simp only [h8, h9, h10, h11, h12, q0, q1, q2, q3]
    refine Ok.to (e_test b1) ?_
    exact Ok.some ⟨yMw_3 h (yTop_bg b1 b2), rfl, rfl⟩
  | 1, h, hr =>
    unfold gX9w_test
    dsimp only
    try simp only [h8, h9, h10, h11, h12, q0, q1, q2, q3]
    refine Ok.to (e_test b1) ?_
    exact Ok.some ⟨yMw_3 h (yTop_bg b1 b2), rfl, rfl⟩
  | z + 2, h, hr =>
    obtain ⟨r2, k2, c2, g2, s2, lr, lc, ti, go, J2, Y, ⟨h13, h14, h15, h16, h17⟩, ⟨h3, h4, h5, h6⟩, ⟨q8, q9, q10, q11⟩, ht, hg, hD⟩ := hr (by omega)
    unfold gX9w_test
    dsimp only
    try simp only [h8, h9, h10, h11, h12, q0, q1, q2, q3, h13, h14, h15, h16, h17, h3, h4, h5, h6, q8, q9, q10, q11]
    refine Ok.to (r := (0, 1)) rfl ?_
    exact Ok.some ⟨yMw_0 (yMw_2 h), rfl, rfl⟩
theorem og9_broken {sh r kk c g s : Nat} {m : Nat → Int32} {L : Int64} {k : Nat → Nat} {G : Nat → Nat → Nat → Int32} {i1 : Int32} {i2 : Int32} {isb : Int32} (h : yMw sh m k G r kk c g s) (hb : Bo isb) : Ok (gX9w_broken sh m L k G i1 i2 isb) (fun o => yMw o.2.1 o.2.2.1 o.2.2.2.2.1 o.2.2.2.2.2 r kk c g s ∧ o.2.2.2.2.2 0 = G 0 ∧ o.2.2.2.2.2 1 = G 1) := by
  obtain ⟨J, ⟨h8, h9, h10, h11, h12, q0, q1, q2, q3⟩, b1, b2, q4, q5, hr⟩ := id h
  match sh, h, hr with
  | 0, h, hr =>
    unfold gX9w_broken
    dsimp only
    try simp only [h8, h9, h10, h11, h12, q0, q1, q2, q3]
    refine Ok.bind (o_X9_broken_i hb b1 b2) (fun _ e => ?_)
    exact Ok.some ⟨yMw_23 h e.1 e.2, rfl, rfl⟩
  | 1, h, hr =>
    unfold gX9w_broken
    dsimp only
    try simp only [h8, h9, h10, h11, h12, q0, q1, q2, q3]
    refine Ok.bind (o_X9_broken_i hb b1 b2) (fun _ e => ?_)
    exact Ok.some ⟨yMw_23 h e.1 e.2, rfl, rfl⟩
  | z + 2, h, hr =>
    obtain ⟨r2, k2, c2, g2, s2, lr, lc, ti, go, J2, Y, ⟨h13, h14, h15, h16, h17⟩, ⟨h3, h4, h5, h6⟩, ⟨q8, q9, q10, q11⟩, ht, hg, hD⟩ := hr (by omega)
    unfold gX9w_broken
    dsimp only
    try simp only [h8, h9, h10, h11, h12, q0, q1, q2, q3, h13, h14, h15, h16, h17, h3, h4, h5, h6, q8, q9, q10, q11]
    refine Ok.bind (o_X9_broken_r hb b1 b2) (fun _ e => ?_)
    exact Ok.some ⟨yMw_23 (yMw_2 h) e.1 e.2, rfl, rfl⟩
theorem og9_begin {sh r kk c g s : Nat} {m : Nat → Int32} {L : Int64} {k : Nat → Nat} {G : Nat → Nat → Nat → Int32}  (h : yMw sh m k G r kk c g s) : Ok (gX9w_begin sh m L k G ) (fun o => yMw o.2.1 o.2.2.1 o.2.2.2.2.1 o.2.2.2.2.2 r kk c g s ∧ o.2.2.2.2.2 0 = G 0 ∧ o.2.2.2.2.2 1 = G 1) := by
  obtain ⟨J, ⟨h8, h9, h10, h11, h12, q0, q1, q2, q3⟩, b1, b2, q4, q5, hr⟩ := id h
  match sh, h, hr with
  | 0, h, hr =>
    unfold gX9w_begin
    dsimp only
    try simp only [h8, h9, h10, h11, h12, q0, q1, q2, q3]
    refine Ok.to (e_begin_i J) ?_
    by_cases hz : (yJb r kk c g s (G 0) (G 1) (G 3)).2.1 = 0
    · rw [if_pos hz, ybr_il]
      exact Ok.some ⟨yMw_0 h, rfl, rfl⟩
    have Y := yJb_lay J hz
    have gg := yGeo J Y
    have st := yJst_of (yTop r (G 0) (fun _ _ => 0)) (yTop kk (G 1) (fun _ _ => 0)) J
    have tb := yTb_of (ti := 0) J Y (by omega) st.1 (by have := J.2.1.2; omega)
    rw [if_neg hz, ybr_ir]
    exact Ok.some ⟨⟨J, ⟨h8, h9, h10, h11, h12, q0, q1, q2, q3⟩, b1, b2, Nat.zero_le _, Nat.zero_le _, fun _ => ⟨r, kk, c, g, s, (yJb r kk c g s (G 0) (G 1) (G 3)).2.1, (yJb r kk c g s (G 0) (G 1) (G 3)).2.2, 0, 0, J, Y, ⟨rfl, rfl, rfl, rfl, rfl⟩, ⟨rfl, rfl, rfl, rfl⟩, ⟨rfl, rfl, rfl, rfl⟩, by omega, Nat.lt_of_lt_of_le (by decide) tb.1, Or.inl rfl⟩⟩, rfl, rfl⟩
  | 1, h, hr =>
    unfold gX9w_begin
    dsimp only
    try simp only [h8, h9, h10, h11, h12, q0, q1, q2, q3]
    refine Ok.to (e_begin_i J) ?_
    by_cases hz : (yJb r kk c g s (G 0) (G 1) (G 3)).2.1 = 0
    · rw [if_pos hz, ybr_il]
      exact Ok.some ⟨yMw_0 h, rfl, rfl⟩
    have Y := yJb_lay J hz
    have gg := yGeo J Y
    have st := yJst_of (yTop r (G 0) (fun _ _ => 0)) (yTop kk (G 1) (fun _ _ => 0)) J
    have tb := yTb_of (ti := 0) J Y (by omega) st.1 (by have := J.2.1.2; omega)
    rw [if_neg hz, ybr_ir]
    exact Ok.some ⟨⟨J, ⟨h8, h9, h10, h11, h12, q0, q1, q2, q3⟩, b1, b2, Nat.zero_le _, Nat.zero_le _, fun _ => ⟨r, kk, c, g, s, (yJb r kk c g s (G 0) (G 1) (G 3)).2.1, (yJb r kk c g s (G 0) (G 1) (G 3)).2.2, 0, 0, J, Y, ⟨rfl, rfl, rfl, rfl, rfl⟩, ⟨rfl, rfl, rfl, rfl⟩, ⟨rfl, rfl, rfl, rfl⟩, by omega, Nat.lt_of_lt_of_le (by decide) tb.1, Or.inl rfl⟩⟩, rfl, rfl⟩
  | z + 2, h, hr =>
    obtain ⟨r2, k2, c2, g2, s2, lr, lc, ti, go, J2, Y, ⟨h13, h14, h15, h16, h17⟩, ⟨h3, h4, h5, h6⟩, ⟨q8, q9, q10, q11⟩, ht, hg, hD⟩ := hr (by omega)
    unfold gX9w_begin
    dsimp only
    try simp only [h8, h9, h10, h11, h12, q0, q1, q2, q3, h13, h14, h15, h16, h17, h3, h4, h5, h6, q8, q9, q10, q11]
    refine Ok.to (r := (0, 1)) rfl ?_
    exact Ok.some ⟨yMw_0 (yMw_2 h), rfl, rfl⟩
theorem og9_beat {sh r kk c g s : Nat} {m : Nat → Int32} {L : Int64} {k : Nat → Nat} {G : Nat → Nat → Nat → Int32} {i1 : Int32} (h : yMw sh m k G r kk c g s) : Ok (gX9w_beat sh m L k G i1) (fun o => yMw o.2.1 o.2.2.1 o.2.2.2.2.1 o.2.2.2.2.2 r kk c g s ∧ o.2.2.2.2.2 0 = G 0 ∧ o.2.2.2.2.2 1 = G 1) := by
  obtain ⟨J, ⟨h8, h9, h10, h11, h12, q0, q1, q2, q3⟩, b1, b2, q4, q5, hr⟩ := id h
  match sh, h, hr with
  | 0, h, hr =>
    unfold gX9w_beat
    dsimp only
    try simp only [h8, h9, h10, h11, h12, q0, q1, q2, q3]
    refine Ok.to e_beat_i ?_
    exact Ok.some ⟨yMw_0 h, rfl, rfl⟩
  | 1, h, hr =>
    unfold gX9w_beat
    dsimp only
    try simp only [h8, h9, h10, h11, h12, q0, q1, q2, q3]
    refine Ok.to e_beat_i ?_
    exact Ok.some ⟨yMw_0 h, rfl, rfl⟩
  | z + 2, h, hr =>
    obtain ⟨r2, k2, c2, g2, s2, lr, lc, ti, go, J2, Y, ⟨h13, h14, h15, h16, h17⟩, ⟨h3, h4, h5, h6⟩, ⟨q8, q9, q10, q11⟩, ht, hg, hD⟩ := hr (by omega)
    unfold gX9w_beat
    dsimp only
    try simp only [h8, h9, h10, h11, h12, q0, q1, q2, q3, h13, h14, h15, h16, h17, h3, h4, h5, h6, q8, q9, q10, q11]
    refine Ok.bind (e_beat (z := (m 1, L, ti, go, G 4, G 5, k 6, k 7, G 7)) J2 Y ⟨ht, hg, hD⟩) (fun o ho => ?_)
    rcases ho with ⟨_, rfl⟩ | ⟨_, rfl, _⟩
    · exact Ok.some ⟨⟨J, ⟨h8, h9, h10, h11, h12, q0, q1, q2, q3⟩, b1, b2, q4, q5, fun _ => ⟨r2, k2, c2, g2, s2, lr, lc, ti, go, J2, Y, ⟨h13, h14, h15, h16, h17⟩, ⟨h3, h4, rfl, rfl⟩, ⟨q8, q9, q10, q11⟩, ht, hg, hD⟩⟩, rfl, rfl⟩
    have hI := yRun_inv (B := G 2) (z := (m 1, L, ti, go, G 4, G 5, k 6, k 7, G 7)) J2 Y ⟨ht, hg, hD⟩ i1.toNatClampNeg
    cases e : yRun r2 k2 c2 g2 s2 lr lc (G 8) (G 9) (G 2) (m 1, L, ti, go, G 4, G 5, k 6, k 7, G 7) i1.toNatClampNeg with
    | inl q =>
      obtain ⟨u1, u2, u3⟩ := hI.1 q e
      exact Ok.some ⟨⟨J, ⟨h8, h9, h10, h11, h12, q0, q1, q2, q3⟩, b1, b2, q4, q5, fun _ => ⟨r2, k2, c2, g2, s2, lr, lc, q.2.2.1, q.2.2.2.1, J2, Y, ⟨h13, h14, h15, h16, h17⟩, ⟨h3, h4, rfl, rfl⟩, ⟨q8, q9, q10, q11⟩, u1, u2, u3⟩⟩, rfl, rfl⟩
    | inr q =>
      have u := hI.2 q e
      have J3 := J2
      obtain ⟨⟨x1, x2⟩, ⟨x3, x4⟩, ⟨x5, x6⟩, x7, x8⟩ := J3
      exact Ok.some ⟨⟨J, ⟨h8, h9, h10, h11, h12, q0, q1, q2, q3⟩, b1, b2, (show q.2.2.2.2.2.2.1 ≤ 9 by omega), (show q.2.2.2.2.2.2.2.1 ≤ 9 by omega), fun z => absurd z (show ¬ 2 ≤ 1 by decide)⟩, rfl, rfl⟩
