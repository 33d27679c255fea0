theorem o_L_shape {xjr : Int32} {xjk : Int32} {xjc : Int32} {xjaf : Nat → Int32} {xjbf : Nat → Int32} {on : Int64} {i1 : Int32} {i2 : Int32} {i3 : Int32} (s9_xjr : S9 xjr) (s9_xjk : S9 xjk) (s9_xjc : S9 xjc) : Ok (fL_shape xjr xjk xjc xjaf xjbf on i1 i2 i3) (fun r => S9 r.2.1 ∧ S9 r.2.2.1 ∧ S9 r.2.2.2.1) := by
  unfold fL_shape
  refine Ok.bind (o_X6_shape (by omega) (by omega) (by omega)) (fun x_1 h_x_1 => ?_)
  refine Ok.br (fun w_7 e_w_7 => ?_) (fun w_10 e_w_10r => ?_)
  · subst e_w_7
    have h_w_7 : w_7 = 0 := h_x_1
    refine Ok.grd (by first | assumption | omega) ?_
    exact Ok.some ⟨s9_xjr, s9_xjk, s9_xjc⟩
  · subst e_w_10r
    have h_w_10 : (fun r => S9 r.2.1 ∧ S9 r.2.2.1 ∧ S9 r.2.2.2.1) w_10 := h_x_1
    exact Ok.some h_w_10
theorem o_L_left {xjr : Int32} {xjk : Int32} {xjaf : Nat → Int32} {on : Int64} {i1 : Int32} {i2 : Int32} {i3 : Int32}  : Ok (fL_left xjr xjk xjaf on i1 i2 i3) (fun _ => True) := by
  unfold fL_left
  refine Ok.bind (o_X6_left) (fun x_1 h_x_1 => ?_)
  refine Ok.br (fun w_7 e_w_7 => ?_) (fun w_12 e_w_12r => ?_)
  · subst e_w_7
    have h_w_7 : w_7 = 1 ∨ w_7 = 0 := h_x_1
    refine Ok.ite (fun c1 => ?_) (fun c1 => ?_)
    · exact Ok.some trivial
    · refine Ok.grd (by first | assumption | omega) ?_
      exact Ok.some trivial
  · subst e_w_12r
    have h_w_12 : (fun _ => True) w_12 := h_x_1
    exact Ok.some trivial
theorem o_L_top {xjk : Int32} {xjc : Int32} {xjbf : Nat → Int32} {on : Int64} {i1 : Int32} {i2 : Int32} {i3 : Int32}  : Ok (fL_top xjk xjc xjbf on i1 i2 i3) (fun _ => True) := by
  unfold fL_top
  refine Ok.bind (o_X6_top) (fun x_1 h_x_1 => ?_)
  refine Ok.br (fun w_7 e_w_7 => ?_) (fun w_12 e_w_12r => ?_)
  · subst e_w_7
    have h_w_7 : w_7 = 1 ∨ w_7 = 0 := h_x_1
    refine Ok.ite (fun c1 => ?_) (fun c1 => ?_)
    · exact Ok.some trivial
    · refine Ok.grd (by first | assumption | omega) ?_
      exact Ok.some trivial
  · subst e_w_12r
    have h_w_12 : (fun _ => True) w_12 := h_x_1
    exact Ok.some trivial
theorem o_L_kind {xjg : Int32} {xjs : Int32} {on : Int64} {i1 : Int32} (bo_xjs : Bo xjs) : Ok (fL_kind xjg xjs on i1) (fun r => Bo r.2.2.1) := by
  unfold fL_kind
  refine Ok.bind (o_X6_kind bo_xjs) (fun x_1 h_x_1 => ?_)
  refine Ok.br (fun w_7 e_w_7 => ?_) (fun w_10 e_w_10r => ?_)
  · subst e_w_7
    have h_w_7 : w_7 = 0 := h_x_1
    refine Ok.grd (by first | assumption | omega) ?_
    exact Ok.some bo_xjs
  · subst e_w_10r
    have h_w_10 : (fun r => Bo r.2.2) w_10 := h_x_1
    exact Ok.some h_w_10
theorem o_L_checked {xjg : Int32} {xjs : Int32} {on : Int64} {i1 : Int32} (bo_xjs : Bo xjs) (bo_i1 : Bo i1) : Ok (fL_checked xjg xjs on i1) (fun r => Bo r.2.1) := by
  unfold fL_checked
  refine Ok.bind (o_X6_checked bo_xjs bo_i1) (fun x_1 h_x_1 => ?_)
  refine Ok.br (fun w_7 e_w_7 => ?_) (fun w_10 e_w_10r => ?_)
  · subst e_w_7
    have h_w_7 : w_7 = 2 := h_x_1
    refine Ok.grd (by first | assumption | omega) ?_
    exact Ok.some bo_xjs
  · subst e_w_10r
    have h_w_10 : (fun r => Bo r.2) w_10 := h_x_1
    refine Ok.bind (P := fun _ => True) ?_ (fun r_12 h_r_12 => ?_)
    · refine Ok.ite (fun c1 => ?_) (fun c1 => ?_)
      · exact Ok.some trivial
      · exact Ok.some trivial
    exact Ok.some h_w_10
theorem o_L_broken {xwb : Int32} {xwk : Int32} {on : Int64} {i1 : Int32} {i2 : Int32} {isb : Int32}  : Ok (fL_broken xwb xwk on i1 i2 isb) (fun _ => True) := by
  unfold fL_broken
  refine Ok.bind (o_X6_broken) (fun x_1 h_x_1 => ?_)
  refine Ok.br (fun w_7 e_w_7 => ?_) (fun w_10 e_w_10r => ?_)
  · subst e_w_7
    have h_w_7 : w_7 = 1 := h_x_1
    refine Ok.grd (by first | assumption | omega) ?_
    exact Ok.some trivial
  · subst e_w_10r
    have h_w_10 : (fun _ => True) w_10 := h_x_1
    exact Ok.some trivial
theorem o_L_test {xwb : Int32} {xwk : Int32} {xobl : Int32} {on : Int64}  : Ok (fL_test xwb xwk xobl on) (fun _ => True) := by
  unfold fL_test
  refine Ok.bind (o_X6_test) (fun x_1 h_x_1 => ?_)
  refine Ok.br (fun w_7 e_w_7 => ?_) (fun w_10 e_w_10r => ?_)
  · subst e_w_7
    have h_w_7 : w_7 = 2 := h_x_1
    refine Ok.grd (by first | assumption | omega) ?_
    exact Ok.some trivial
  · subst e_w_10r
    have h_w_10 : (fun _ => True) w_10 := h_x_1
    exact Ok.some trivial
theorem o_L_start {xjr : Int32} {xjk : Int32} {xjc : Int32} {xjg : Int32} {xjs : Int32} {xjaf : Nat → Int32} {xjbf : Nat → Int32} {xwk : Int32} {xwmf : Nat → Int32} {xzr : Int32} {xzc : Int32} {xzs : Int32} {xosk : Int32} {xoti : Int32} {xofr : Int32} {xofc : Int32} {xobt : Int32} {xobl : Int32} {xose : Int32} {xojr : Int32} {xojk : Int32} {xojc : Int32} {xojg : Int32} {xojs : Int32} {xojaf : Nat → Int32} {xojbf : Nat → Int32} {xoy0 : Int32} {xoy1 : Int32} {xoy2 : Int32} {xoy3 : Int32} {xoy4 : Int32} {xoy5 : Int32} {xoy6 : Int32} {xoy7 : Int32} {xoy8 : Int32} {xoy9 : Int32} {xy0 : Int32} {xy1 : Int32} {xy2 : Int32} {xy3 : Int32} {xy4 : Int32} {xy5 : Int32} {xy6 : Int32} {xy7 : Int32} {xy8 : Int32} {xy9 : Int32} {xt0 : Int32} {xt1 : Int32} {xt2 : Int32} {xt3 : Int32} {xt4 : Int32} {xt5 : Int32} {xt6 : Int32} {xt7 : Int32} {xt8 : Int32} {xt9 : Int32} {on : Int64} (s9_xjr : S9 xjr) (s9_xjk : S9 xjk) (s9_xjc : S9 xjc) (bo_xjs : Bo xjs) (sx_xzr : SX xzr) (sx_xzc : SX xzc) (bo_xzs : Bo xzs) (s9_xojr : S9 xojr) (s9_xojk : S9 xojk) (s9_xojc : S9 xojc) (bo_xojs : Bo xojs) (up_xoy5 : Up xoy5) (up_xoy6 : Up xoy6) : Ok (fL_start xjr xjk xjc xjg xjs xjaf xjbf xwk xwmf xzr xzc xzs xosk xoti xofr xofc xobt xobl xose xojr xojk xojc xojg xojs xojaf xojbf xoy0 xoy1 xoy2 xoy3 xoy4 xoy5 xoy6 xoy7 xoy8 xoy9 xy0 xy1 xy2 xy3 xy4 xy5 xy6 xy7 xy8 xy9 xt0 xt1 xt2 xt3 xt4 xt5 xt6 xt7 xt8 xt9 on) (fun r => SX r.2.2.1 ∧ SX r.2.2.2.1 ∧ Bo r.2.2.2.2.1 ∧ S9 r.2.2.2.2.2.2.2.2.2.2.2.2.1 ∧ S9 r.2.2.2.2.2.2.2.2.2.2.2.2.2.1 ∧ S9 r.2.2.2.2.2.2.2.2.2.2.2.2.2.2.1 ∧ Bo r.2.2.2.2.2.2.2.2.2.2.2.2.2.2.2.2.1 ∧ Up r.2.2.2.2.2.2.2.2.2.2.2.2.2.2.2.2.2.2.2.2.2.2.2.2.1 ∧ Up r.2.2.2.2.2.2.2.2.2.2.2.2.2.2.2.2.2.2.2.2.2.2.2.2.2.1) := by
  unfold fL_start
  refine Ok.bind (o_X6_start s9_xjr s9_xjk s9_xjc bo_xjs) (fun x_1 h_x_1 => ?_)
  refine Ok.br (fun w_7 e_w_7 => ?_) (fun w_10 e_w_10r => ?_)
  · subst e_w_7
    have h_w_7 : w_7.1 = 2 := h_x_1
    refine Ok.grd (by first | assumption | omega) ?_
    exact Ok.some ⟨sx_xzr, sx_xzc, bo_xzs, s9_xojr, s9_xojk, s9_xojc, bo_xojs, up_xoy5, up_xoy6⟩
  · subst e_w_10r
    have h_w_10 : (fun r => SX r.2.2.1 ∧ SX r.2.2.2.1 ∧ Bo r.2.2.2.2.1 ∧ S9 r.2.2.2.2.2.2.2.2.2.2.2.2.1 ∧ S9 r.2.2.2.2.2.2.2.2.2.2.2.2.2.1 ∧ S9 r.2.2.2.2.2.2.2.2.2.2.2.2.2.2.1 ∧ Bo r.2.2.2.2.2.2.2.2.2.2.2.2.2.2.2.2.1 ∧ Up r.2.2.2.2.2.2.2.2.2.2.2.2.2.2.2.2.2.2.2.2.2.2.2.2.1 ∧ Up r.2.2.2.2.2.2.2.2.2.2.2.2.2.2.2.2.2.2.2.2.2.2.2.2.2.1) w_10 := h_x_1
    exact Ok.some h_w_10
theorem o_L_beat {xosk : Int32} {xoti : Int32} {xofr : Int32} {xofc : Int32} {xobt : Int32} {xobl : Int32} {xobe : Int32} {xotk : Int32} {xojr : Int32} {xojc : Int32} {xojg : Int32} {xojs : Int32} {xojaf : Nat → Int32} {xojbf : Nat → Int32} {xoy0 : Int32} {xoy1 : Int32} {xoy2 : Int32} {xoy3 : Int32} {xoy4 : Int32} {xoy5 : Int32} {xoy6 : Int32} {xwb : Int32} {xwuf : Nat → Int32} {xwmf : Nat → Int32} {xzr : Int32} {xzc : Int32} {xzs : Int32} {xzvf : Nat → Int32} {on : Int64} {i1 : Int32} (s9_xojr : S9 xojr) (s9_xojc : S9 xojc) (bo_xojs : Bo xojs) (up_xoy5 : Up xoy5) (up_xoy6 : Up xoy6) (sx_xzr : SX xzr) (sx_xzc : SX xzc) (bo_xzs : Bo xzs) : Ok (fL_beat xosk xoti xofr xofc xobt xobl xobe xotk xojr xojc xojg xojs xojaf xojbf xoy0 xoy1 xoy2 xoy3 xoy4 xoy5 xoy6 xwb xwuf xwmf xzr xzc xzs xzvf on i1) (fun r => SX r.2.2.2.2.2.2.2.2.2.2.1 ∧ SX r.2.2.2.2.2.2.2.2.2.2.2.1 ∧ Bo r.2.2.2.2.2.2.2.2.2.2.2.2.1) := by
  unfold fL_beat
  refine Ok.bind (o_X6_beat s9_xojr s9_xojc bo_xojs up_xoy5 up_xoy6 sx_xzr sx_xzc bo_xzs) (fun x_1 h_x_1 => ?_)
  refine Ok.br (fun w_7 e_w_7 => ?_) (fun w_12 e_w_12r => ?_)
  · subst e_w_7
    have h_w_7 : w_7 = 0 ∨ w_7 = 2 := h_x_1
    refine Ok.ite (fun c1 => ?_) (fun c1 => ?_)
    · exact Ok.some ⟨sx_xzr, sx_xzc, bo_xzs⟩
    · refine Ok.grd (by first | assumption | omega) ?_
      exact Ok.some ⟨sx_xzr, sx_xzc, bo_xzs⟩
  · subst e_w_12r
    have h_w_12 : (fun r => SX r.2.2.2.2.2.2.2.2.2.2.1 ∧ SX r.2.2.2.2.2.2.2.2.2.2.2.1 ∧ Bo r.2.2.2.2.2.2.2.2.2.2.2.2.1) w_12 := h_x_1
    exact Ok.some h_w_12
theorem o_L_bend {xzr : Int32} {xzc : Int32} {xzvf : Nat → Int32} {on : Int64} {i1 : Int32} {i2 : Int32} {i3 : Int32}  : Ok (fL_bend xzr xzc xzvf on i1 i2 i3) (fun _ => True) := by
  unfold fL_bend
  refine Ok.bind (o_X6_bend) (fun x_1 h_x_1 => ?_)
  refine Ok.br (fun w_7 e_w_7 => ?_) (fun w_12 e_w_12r => ?_)
  · subst e_w_7
    have h_w_7 : w_7 = 1 ∨ w_7 = 0 := h_x_1
    refine Ok.ite (fun c1 => ?_) (fun c1 => ?_)
    · exact Ok.some trivial
    · refine Ok.grd (by first | assumption | omega) ?_
      exact Ok.some trivial
  · subst e_w_12r
    have h_w_12 : (fun _ => True) w_12 := h_x_1
    exact Ok.some trivial
theorem o_L_check {xzr : Int32} {xzc : Int32} {xzs : Int32} {xzvf : Nat → Int32} {on : Int64} (sm_xzr : Sm xzr) (sm_xzc : Sm xzc) : Ok (fL_check xzr xzc xzs xzvf on) (fun _ => True) := by
  unfold fL_check
  refine Ok.bind (o_X6_check sm_xzr sm_xzc) (fun x_1 h_x_1 => ?_)
  refine Ok.br (fun w_7 e_w_7 => ?_) (fun w_10 e_w_10r => ?_)
  · subst e_w_7
    have h_w_7 : w_7 = 2 := h_x_1
    refine Ok.grd (by first | assumption | omega) ?_
    exact Ok.some trivial
  · subst e_w_10r
    have h_w_10 : (fun _ => True) w_10 := h_x_1
    exact Ok.some trivial
theorem o_L_mesh {xjr : Int32} {xjk : Int32} {xjc : Int32} {xjg : Int32} {xjs : Int32} {xjaf : Nat → Int32} {xjbf : Nat → Int32} {xwb : Int32} {xwk : Int32} {xzr : Int32} {xzc : Int32} {xoti : Int32} {xobl : Int32} {xobe : Int32} {xose : Int32} {on : Int64} {i1 : Int32} (sm_xjr : Sm xjr) (sm_xjk : Sm xjk) (sm_xjc : Sm xjc) : Ok (fL_mesh xjr xjk xjc xjg xjs xjaf xjbf xwb xwk xzr xzc xoti xobl xobe xose on i1) (fun _ => True) := by
  unfold fL_mesh
  refine Ok.bind (o_X6_mesh sm_xjr sm_xjk sm_xjc) (fun x_1 h_x_1 => ?_)
  refine Ok.br (fun w_7 e_w_7 => ?_) (fun w_10 e_w_10r => ?_)
  · subst e_w_7
    have h_w_7 : w_7 = 0 := h_x_1
    refine Ok.grd (by first | assumption | omega) ?_
    exact Ok.some trivial
  · subst e_w_10r
    have h_w_10 : (fun _ => True) w_10 := h_x_1
    exact Ok.some trivial
theorem o_L_ofCell {xwb : Int32} {xwk : Int32} {xwuf : Nat → Int32} {xwmf : Nat → Int32} {xofr : Int32} {xofc : Int32} {xobt : Int32} {xobl : Int32} {xoy0 : Int32} {xoy1 : Int32} {xoy2 : Int32} {xoy3 : Int32} {xoy4 : Int32} {xoy5 : Int32} {xoy6 : Int32} {on : Int64} {i1 : Int32} {i2 : Int32} {i3 : Int32}  : Ok (fL_ofCell xwb xwk xwuf xwmf xofr xofc xobt xobl xoy0 xoy1 xoy2 xoy3 xoy4 xoy5 xoy6 on i1 i2 i3) (fun _ => True) := by
  unfold fL_ofCell
  refine Ok.bind (o_X6_ofCell) (fun x_1 h_x_1 => ?_)
  refine Ok.br (fun w_7 e_w_7 => ?_) (fun w_12 e_w_12r => ?_)
  · subst e_w_7
    have h_w_7 : w_7 = 1 ∨ w_7 = 0 := h_x_1
    refine Ok.ite (fun c1 => ?_) (fun c1 => ?_)
    · exact Ok.some trivial
    · refine Ok.grd (by first | assumption | omega) ?_
      exact Ok.some trivial
  · subst e_w_12r
    have h_w_12 : (fun _ => True) w_12 := h_x_1
    exact Ok.some trivial
theorem o_L_result {xzr : Int32} {xzc : Int32} {xzvf : Nat → Int32} {on : Int64} {i1 : Int32} {i2 : Int32}  : Ok (fL_result xzr xzc xzvf on i1 i2) (fun _ => True) := by
  unfold fL_result
  refine Ok.bind (o_X6_result) (fun x_1 h_x_1 => ?_)
  refine Ok.br (fun w_7 e_w_7 => ?_) (fun w_10 e_w_10r => ?_)
  · subst e_w_7
    have h_w_7 : w_7 = 1 := h_x_1
    refine Ok.grd (by first | assumption | omega) ?_
    exact Ok.some trivial
  · subst e_w_10r
    have h_w_10 : (fun _ => True) w_10 := h_x_1
    exact Ok.some trivial
theorem o_L_plain {xjr : Int32} {xjk : Int32} {xjc : Int32} {xjg : Int32} {xjs : Int32} {xjaf : Nat → Int32} {xjbf : Nat → Int32} {on : Int64} {i1 : Int32} {i2 : Int32} (sm_xjr : Sm xjr) (sm_xjk : Sm xjk) (sm_xjc : Sm xjc) : Ok (fL_plain xjr xjk xjc xjg xjs xjaf xjbf on i1 i2) (fun _ => True) := by
  unfold fL_plain
  refine Ok.bind (o_X6_plain sm_xjr sm_xjk sm_xjc) (fun x_1 h_x_1 => ?_)
  refine Ok.br (fun w_7 e_w_7 => ?_) (fun w_10 e_w_10r => ?_)
  · subst e_w_7
    have h_w_7 : w_7 = 1 := h_x_1
    refine Ok.grd (by first | assumption | omega) ?_
    exact Ok.some trivial
  · subst e_w_10r
    have h_w_10 : (fun _ => True) w_10 := h_x_1
    exact Ok.some trivial
theorem o_L_beats {xjr : Int32} {xjk : Int32} {xjc : Int32} {xjg : Int32} {xjs : Int32} {xjaf : Nat → Int32} {xjbf : Nat → Int32} {xwk : Int32} {xt0 : Int32} {xt1 : Int32} {xt2 : Int32} {xt3 : Int32} {xt4 : Int32} {xt5 : Int32} {xt6 : Int32} {xt7 : Int32} {xt8 : Int32} {xt9 : Int32} {on : Int64} {i1 : Int32} {i2 : Int32} (sm_xjr : Sm xjr) (sm_xjk : Sm xjk) (sm_xjc : Sm xjc) : Ok (fL_beats xjr xjk xjc xjg xjs xjaf xjbf xwk xt0 xt1 xt2 xt3 xt4 xt5 xt6 xt7 xt8 xt9 on i1 i2) (fun _ => True) := by
  unfold fL_beats
  refine Ok.bind (o_X6_beats sm_xjr sm_xjk sm_xjc) (fun x_1 h_x_1 => ?_)
  refine Ok.br (fun w_7 e_w_7 => ?_) (fun w_10 e_w_10r => ?_)
  · subst e_w_7
    have h_w_7 : w_7 = 0 := h_x_1
    refine Ok.grd (by first | assumption | omega) ?_
    exact Ok.some trivial
  · subst e_w_10r
    have h_w_10 : (fun _ => True) w_10 := h_x_1
    exact Ok.some trivial
theorem o_L_best {xjr : Int32} {xjk : Int32} {xjc : Int32} {xjg : Int32} {xjs : Int32} {xjaf : Nat → Int32} {xjbf : Nat → Int32} {xwk : Int32} {xy0 : Int32} {xy1 : Int32} {xy2 : Int32} {xy3 : Int32} {xy4 : Int32} {xy5 : Int32} {xy6 : Int32} {xy7 : Int32} {xy8 : Int32} {xy9 : Int32} {xt0 : Int32} {xt1 : Int32} {xt2 : Int32} {xt3 : Int32} {xt4 : Int32} {xt5 : Int32} {xt6 : Int32} {xt7 : Int32} {xt8 : Int32} {xt9 : Int32} {on : Int64} {i1 : Int32} (sm_xjr : Sm xjr) (sm_xjk : Sm xjk) (sm_xjc : Sm xjc) : Ok (fL_best xjr xjk xjc xjg xjs xjaf xjbf xwk xy0 xy1 xy2 xy3 xy4 xy5 xy6 xy7 xy8 xy9 xt0 xt1 xt2 xt3 xt4 xt5 xt6 xt7 xt8 xt9 on i1) (fun _ => True) := by
  unfold fL_best
  refine Ok.bind (o_X6_best sm_xjr sm_xjk sm_xjc) (fun x_1 h_x_1 => ?_)
  refine Ok.br (fun w_7 e_w_7 => ?_) (fun w_10 e_w_10r => ?_)
  · subst e_w_7
    have h_w_7 : w_7 = 0 := h_x_1
    refine Ok.grd (by first | assumption | omega) ?_
    exact Ok.some trivial
  · subst e_w_10r
    have h_w_10 : (fun _ => True) w_10 := h_x_1
    exact Ok.some trivial
