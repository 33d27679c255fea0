abbrev InvC (n : Nat → Int32) : Prop := S9 (n 0) ∧ S9 (n 1) ∧ S9 (n 2) ∧ Bo (n 4) ∧ SX (n 7) ∧ SX (n 8) ∧ Bo (n 9) ∧ S9 (n 19) ∧ S9 (n 20) ∧ S9 (n 21) ∧ Bo (n 23) ∧ Up (n 29) ∧ Up (n 30)
theorem ogL_shape {n : Nat → Int32} {t : Nat → Nat → Int32} {on : Int64} {i1 : Int32} {i2 : Int32} {i3 : Int32} (h : InvC n)  : Ok (gL_shape n t on i1 i2 i3) (fun r => InvC r.2.1) := by
  obtain ⟨a0, a1, a2, a4, a7, a8, a9, a19, a20, a21, a23, a29, a30⟩ := id h
  unfold gL_shape
  refine Ok.bind (o_L_shape (by first | exact a0 | exact ⟨a0.1, by omega⟩ | omega) (by first | exact a1 | exact ⟨a1.1, by omega⟩ | omega) (by first | exact a2 | exact ⟨a2.1, by omega⟩ | omega)) (fun r hr => Ok.some ?_)
  exact ⟨hr.1, hr.2.1, hr.2.2, a4, a7, a8, a9, a19, a20, a21, a23, a29, a30⟩
theorem ogL_left {n : Nat → Int32} {t : Nat → Nat → Int32} {on : Int64} {i1 : Int32} {i2 : Int32} {i3 : Int32} (h : InvC n)  : Ok (gL_left n t on i1 i2 i3) (fun r => InvC r.2.1) := by
  obtain ⟨a0, a1, a2, a4, a7, a8, a9, a19, a20, a21, a23, a29, a30⟩ := id h
  unfold gL_left
  refine Ok.bind (o_L_left ) (fun r hr => Ok.some ?_)
  exact ⟨a0, a1, a2, a4, a7, a8, a9, a19, a20, a21, a23, a29, a30⟩
theorem ogL_top {n : Nat → Int32} {t : Nat → Nat → Int32} {on : Int64} {i1 : Int32} {i2 : Int32} {i3 : Int32} (h : InvC n)  : Ok (gL_top n t on i1 i2 i3) (fun r => InvC r.2.1) := by
  obtain ⟨a0, a1, a2, a4, a7, a8, a9, a19, a20, a21, a23, a29, a30⟩ := id h
  unfold gL_top
  refine Ok.bind (o_L_top ) (fun r hr => Ok.some ?_)
  exact ⟨a0, a1, a2, a4, a7, a8, a9, a19, a20, a21, a23, a29, a30⟩
theorem ogL_kind {n : Nat → Int32} {t : Nat → Nat → Int32} {on : Int64} {i1 : Int32} (h : InvC n)  : Ok (gL_kind n t on i1) (fun r => InvC r.2.1) := by
  obtain ⟨a0, a1, a2, a4, a7, a8, a9, a19, a20, a21, a23, a29, a30⟩ := id h
  unfold gL_kind
  refine Ok.bind (o_L_kind (by first | exact a4 | exact ⟨a4.1, by omega⟩ | omega)) (fun r hr => Ok.some ?_)
  exact ⟨a0, a1, a2, hr, a7, a8, a9, a19, a20, a21, a23, a29, a30⟩
theorem ogL_checked {n : Nat → Int32} {t : Nat → Nat → Int32} {on : Int64} {i1 : Int32} (h : InvC n) (b_i1 : Bo i1) : Ok (gL_checked n t on i1) (fun r => InvC r.2.1) := by
  obtain ⟨a0, a1, a2, a4, a7, a8, a9, a19, a20, a21, a23, a29, a30⟩ := id h
  unfold gL_checked
  refine Ok.bind (o_L_checked (by first | exact a4 | exact ⟨a4.1, by omega⟩ | omega) b_i1) (fun r hr => Ok.some ?_)
  exact ⟨a0, a1, a2, hr, a7, a8, a9, a19, a20, a21, a23, a29, a30⟩
theorem ogL_broken {n : Nat → Int32} {t : Nat → Nat → Int32} {on : Int64} {i1 : Int32} {i2 : Int32} {isb : Int32} (h : InvC n)  : Ok (gL_broken n t on i1 i2 isb) (fun r => InvC r.2.1) := by
  obtain ⟨a0, a1, a2, a4, a7, a8, a9, a19, a20, a21, a23, a29, a30⟩ := id h
  unfold gL_broken
  refine Ok.bind (o_L_broken ) (fun r hr => Ok.some ?_)
  exact ⟨a0, a1, a2, a4, a7, a8, a9, a19, a20, a21, a23, a29, a30⟩
theorem ogL_test {n : Nat → Int32} {t : Nat → Nat → Int32} {on : Int64} (h : InvC n)  : Ok (gL_test n t on) (fun r => InvC r.2.1) := by
  obtain ⟨a0, a1, a2, a4, a7, a8, a9, a19, a20, a21, a23, a29, a30⟩ := id h
  unfold gL_test
  refine Ok.bind (o_L_test ) (fun r hr => Ok.some ?_)
  exact ⟨a0, a1, a2, a4, a7, a8, a9, a19, a20, a21, a23, a29, a30⟩
theorem ogL_start {n : Nat → Int32} {t : Nat → Nat → Int32} {on : Int64} (h : InvC n)  : Ok (gL_start n t on) (fun r => InvC r.2.1) := by
  obtain ⟨a0, a1, a2, a4, a7, a8, a9, a19, a20, a21, a23, a29, a30⟩ := id h
  unfold gL_start
  refine Ok.bind (o_L_start (by first | exact a0 | exact ⟨a0.1, by omega⟩ | omega) (by first | exact a1 | exact ⟨a1.1, by omega⟩ | omega) (by first | exact a2 | exact ⟨a2.1, by omega⟩ | omega) (by first | exact a4 | exact ⟨a4.1, by omega⟩ | omega) (by first | exact a7 | exact ⟨a7.1, by omega⟩ | omega) (by first | exact a8 | exact ⟨a8.1, by omega⟩ | omega) (by first | exact a9 | exact ⟨a9.1, by omega⟩ | omega) (by first | exact a19 | exact ⟨a19.1, by omega⟩ | omega) (by first | exact a20 | exact ⟨a20.1, by omega⟩ | omega) (by first | exact a21 | exact ⟨a21.1, by omega⟩ | omega) (by first | exact a23 | exact ⟨a23.1, by omega⟩ | omega) (by first | exact a29 | exact ⟨a29.1, by omega⟩ | omega) (by first | exact a30 | exact ⟨a30.1, by omega⟩ | omega)) (fun r hr => Ok.some ?_)
  exact ⟨a0, a1, a2, a4, hr.1, hr.2.1, hr.2.2.1, hr.2.2.2.1, hr.2.2.2.2.1, hr.2.2.2.2.2.1, hr.2.2.2.2.2.2.1, hr.2.2.2.2.2.2.2.1, hr.2.2.2.2.2.2.2.2⟩
theorem ogL_beat {n : Nat → Int32} {t : Nat → Nat → Int32} {on : Int64} {i1 : Int32} (h : InvC n)  : Ok (gL_beat n t on i1) (fun r => InvC r.2.1) := by
  obtain ⟨a0, a1, a2, a4, a7, a8, a9, a19, a20, a21, a23, a29, a30⟩ := id h
  unfold gL_beat
  refine Ok.bind (o_L_beat (by first | exact a19 | exact ⟨a19.1, by omega⟩ | omega) (by first | exact a21 | exact ⟨a21.1, by omega⟩ | omega) (by first | exact a23 | exact ⟨a23.1, by omega⟩ | omega) (by first | exact a29 | exact ⟨a29.1, by omega⟩ | omega) (by first | exact a30 | exact ⟨a30.1, by omega⟩ | omega) (by first | exact a7 | exact ⟨a7.1, by omega⟩ | omega) (by first | exact a8 | exact ⟨a8.1, by omega⟩ | omega) (by first | exact a9 | exact ⟨a9.1, by omega⟩ | omega)) (fun r hr => Ok.some ?_)
  exact ⟨a0, a1, a2, a4, hr.1, hr.2.1, hr.2.2, a19, a20, a21, a23, a29, a30⟩
theorem ogL_bend {n : Nat → Int32} {t : Nat → Nat → Int32} {on : Int64} {i1 : Int32} {i2 : Int32} {i3 : Int32} (h : InvC n)  : Ok (gL_bend n t on i1 i2 i3) (fun r => InvC r.2.1) := by
  obtain ⟨a0, a1, a2, a4, a7, a8, a9, a19, a20, a21, a23, a29, a30⟩ := id h
  unfold gL_bend
  refine Ok.bind (o_L_bend ) (fun r hr => Ok.some ?_)
  exact ⟨a0, a1, a2, a4, a7, a8, a9, a19, a20, a21, a23, a29, a30⟩
theorem ogL_check {n : Nat → Int32} {t : Nat → Nat → Int32} {on : Int64} (h : InvC n)  : Ok (gL_check n t on) (fun r => InvC r.2.1) := by
  obtain ⟨a0, a1, a2, a4, a7, a8, a9, a19, a20, a21, a23, a29, a30⟩ := id h
  unfold gL_check
  refine Ok.bind (o_L_check (by first | exact a7 | exact ⟨a7.1, by omega⟩ | omega) (by first | exact a8 | exact ⟨a8.1, by omega⟩ | omega)) (fun r hr => Ok.some ?_)
  exact ⟨a0, a1, a2, a4, a7, a8, a9, a19, a20, a21, a23, a29, a30⟩
theorem ogL_mesh {n : Nat → Int32} {t : Nat → Nat → Int32} {on : Int64} {i1 : Int32} (h : InvC n)  : Ok (gL_mesh n t on i1) (fun r => InvC r.2.1) := by
  obtain ⟨a0, a1, a2, a4, a7, a8, a9, a19, a20, a21, a23, a29, a30⟩ := id h
  unfold gL_mesh
  refine Ok.bind (o_L_mesh (by first | exact a0 | exact ⟨a0.1, by omega⟩ | omega) (by first | exact a1 | exact ⟨a1.1, by omega⟩ | omega) (by first | exact a2 | exact ⟨a2.1, by omega⟩ | omega)) (fun r hr => Ok.some ?_)
  exact ⟨a0, a1, a2, a4, a7, a8, a9, a19, a20, a21, a23, a29, a30⟩
theorem ogL_ofCell {n : Nat → Int32} {t : Nat → Nat → Int32} {on : Int64} {i1 : Int32} {i2 : Int32} {i3 : Int32} (h : InvC n)  : Ok (gL_ofCell n t on i1 i2 i3) (fun r => InvC r.2.1) := by
  obtain ⟨a0, a1, a2, a4, a7, a8, a9, a19, a20, a21, a23, a29, a30⟩ := id h
  unfold gL_ofCell
  refine Ok.bind (o_L_ofCell ) (fun r hr => Ok.some ?_)
  exact ⟨a0, a1, a2, a4, a7, a8, a9, a19, a20, a21, a23, a29, a30⟩
theorem ogL_result {n : Nat → Int32} {t : Nat → Nat → Int32} {on : Int64} {i1 : Int32} {i2 : Int32} (h : InvC n)  : Ok (gL_result n t on i1 i2) (fun r => InvC r.2.1) := by
  obtain ⟨a0, a1, a2, a4, a7, a8, a9, a19, a20, a21, a23, a29, a30⟩ := id h
  unfold gL_result
  refine Ok.bind (o_L_result ) (fun r hr => Ok.some ?_)
  exact ⟨a0, a1, a2, a4, a7, a8, a9, a19, a20, a21, a23, a29, a30⟩
theorem ogL_plain {n : Nat → Int32} {t : Nat → Nat → Int32} {on : Int64} {i1 : Int32} {i2 : Int32} (h : InvC n)  : Ok (gL_plain n t on i1 i2) (fun r => InvC r.2.1) := by
  obtain ⟨a0, a1, a2, a4, a7, a8, a9, a19, a20, a21, a23, a29, a30⟩ := id h
  unfold gL_plain
  refine Ok.bind (o_L_plain (by first | exact a0 | exact ⟨a0.1, by omega⟩ | omega) (by first | exact a1 | exact ⟨a1.1, by omega⟩ | omega) (by first | exact a2 | exact ⟨a2.1, by omega⟩ | omega)) (fun r hr => Ok.some ?_)
  exact ⟨a0, a1, a2, a4, a7, a8, a9, a19, a20, a21, a23, a29, a30⟩
theorem ogL_beats {n : Nat → Int32} {t : Nat → Nat → Int32} {on : Int64} {i1 : Int32} {i2 : Int32} (h : InvC n)  : Ok (gL_beats n t on i1 i2) (fun r => InvC r.2.1) := by
  obtain ⟨a0, a1, a2, a4, a7, a8, a9, a19, a20, a21, a23, a29, a30⟩ := id h
  unfold gL_beats
  refine Ok.bind (o_L_beats (by first | exact a0 | exact ⟨a0.1, by omega⟩ | omega) (by first | exact a1 | exact ⟨a1.1, by omega⟩ | omega) (by first | exact a2 | exact ⟨a2.1, by omega⟩ | omega)) (fun r hr => Ok.some ?_)
  exact ⟨a0, a1, a2, a4, a7, a8, a9, a19, a20, a21, a23, a29, a30⟩
theorem ogL_best {n : Nat → Int32} {t : Nat → Nat → Int32} {on : Int64} {i1 : Int32} (h : InvC n)  : Ok (gL_best n t on i1) (fun r => InvC r.2.1) := by
  obtain ⟨a0, a1, a2, a4, a7, a8, a9, a19, a20, a21, a23, a29, a30⟩ := id h
  unfold gL_best
  refine Ok.bind (o_L_best (by first | exact a0 | exact ⟨a0.1, by omega⟩ | omega) (by first | exact a1 | exact ⟨a1.1, by omega⟩ | omega) (by first | exact a2 | exact ⟨a2.1, by omega⟩ | omega)) (fun r hr => Ok.some ?_)
  exact ⟨a0, a1, a2, a4, a7, a8, a9, a19, a20, a21, a23, a29, a30⟩
theorem ogX6_saved {n : Nat → Int32} {t : Nat → Nat → Int32} (h : InvC n)  : Ok (gX6_saved n t) (fun r => InvC r.2.1) := by
  obtain ⟨a0, a1, a2, a4, a7, a8, a9, a19, a20, a21, a23, a29, a30⟩ := id h
  unfold gX6_saved
  refine Ok.bind (o_X6_saved (by first | exact a0 | exact ⟨a0.1, by omega⟩ | omega) (by first | exact a1 | exact ⟨a1.1, by omega⟩ | omega) (by first | exact a2 | exact ⟨a2.1, by omega⟩ | omega)) (fun r hr => Ok.some ?_)
  exact ⟨a0, a1, a2, a4, a7, a8, a9, a19, a20, a21, a23, a29, a30⟩
theorem ogX6_isSound {n : Nat → Int32} {t : Nat → Nat → Int32} (h : InvC n)  : Ok (gX6_isSound n t) (fun r => InvC r.2.1) := by
  obtain ⟨a0, a1, a2, a4, a7, a8, a9, a19, a20, a21, a23, a29, a30⟩ := id h
  unfold gX6_isSound
  refine Ok.bind (o_X6_isSound (by first | exact a0 | exact ⟨a0.1, by omega⟩ | omega) (by first | exact a1 | exact ⟨a1.1, by omega⟩ | omega) (by first | exact a2 | exact ⟨a2.1, by omega⟩ | omega) (by first | exact a29 | exact ⟨a29.1, by omega⟩ | omega) (by first | exact a30 | exact ⟨a30.1, by omega⟩ | omega)) (fun r hr => Ok.some ?_)
  exact ⟨a0, a1, a2, a4, a7, a8, a9, a19, a20, a21, a23, a29, a30⟩
theorem ogX6_digest {n : Nat → Int32} {t : Nat → Nat → Int32} (h : InvC n)  : Ok (gX6_digest n t) (fun r => InvC r.2.1) := by
  obtain ⟨a0, a1, a2, a4, a7, a8, a9, a19, a20, a21, a23, a29, a30⟩ := id h
  unfold gX6_digest
  refine Ok.bind (o_X6_digest (by first | exact a0 | exact ⟨a0.1, by omega⟩ | omega) (by first | exact a1 | exact ⟨a1.1, by omega⟩ | omega) (by first | exact a2 | exact ⟨a2.1, by omega⟩ | omega) (by first | exact a7 | exact ⟨a7.1, by omega⟩ | omega) (by first | exact a8 | exact ⟨a8.1, by omega⟩ | omega) (by first | exact a29 | exact ⟨a29.1, by omega⟩ | omega) (by first | exact a30 | exact ⟨a30.1, by omega⟩ | omega)) (fun r hr => Ok.some ?_)
  exact ⟨a0, a1, a2, a4, a7, a8, a9, a19, a20, a21, a23, a29, a30⟩
