theorem u_332 : Cond.methodLink RX1 79 yX1_skippedSet ∈ yU := yu 332 (by decide +kernel) (by decide +kernel)
theorem u_333 : Cond.instanceMethod yX1_skippedSet ∈ yU := yu 333 (by decide +kernel) (by decide +kernel)
theorem u_334 : Cond.selects RX1 yX1_skippedSet yX1_skippedSet ∈ yU := yu 334 (by decide +kernel) (by decide +kernel)
theorem u_348 : Cond.methodLink RX1 82 yJ6_bitCount_0f7a4 ∈ yU := yu 348 (by decide +kernel) (by decide +kernel)
theorem u_331 : Cond.code yX1_countSteps cX1_countSteps 1 (some .int) ∈ yU := yu 331 (by decide +kernel) (by decide +kernel)
theorem u_361 : Cond.code yX2_countPieces cX2_countPieces 2 (some .int) ∈ yU := yu 361 (by decide +kernel) (by decide +kernel)
theorem u_63 : Cond.initialized RX2 ∈ yU := yu 63 (by decide +kernel) (by decide +kernel)
theorem u_222 : Cond.fieldLink RX2 31 "Pulsemesh$Layout" "tilesDown" "I" ∈ yU := yu 222 (by decide +kernel) (by decide +kernel)
theorem u_223 : Cond.fieldLink RX2 34 "Pulsemesh$Layout" "tilesAcross" "I" ∈ yU := yu 223 (by decide +kernel) (by decide +kernel)
theorem u_369 : Cond.code yX2_countTiles cX2_countTiles 1 (some .int) ∈ yU := yu 369 (by decide +kernel) (by decide +kernel)
theorem u_205 : Cond.fieldLink RX2 7 "Pulsemesh$Layout" "jobRows" "I" ∈ yU := yu 205 (by decide +kernel) (by decide +kernel)
theorem u_207 : Cond.fieldLink RX2 13 "Pulsemesh$Layout" "jobColumns" "I" ∈ yU := yu 207 (by decide +kernel) (by decide +kernel)
theorem u_365 : Cond.code yX2_countEdges cX2_countEdges 1 (some .int) ∈ yU := yu 365 (by decide +kernel) (by decide +kernel)
theorem dX1_countSteps_0 : decode cX1_countSteps 0 = .ok (.aload_n 0, 1) := by decide +kernel
theorem dX1_countSteps_1 : decode cX1_countSteps 1 = .ok (.getfield 25, 3) := by decide +kernel
theorem dX1_countSteps_4 : decode cX1_countSteps 4 = .ok (.aload_n 0, 1) := by decide +kernel
theorem dX1_countSteps_5 : decode cX1_countSteps 5 = .ok (.invokevirtual 79, 3) := by decide +kernel
theorem dX1_countSteps_8 : decode cX1_countSteps 8 = .ok (.invokestatic 82, 3) := by decide +kernel
theorem dX1_countSteps_11 : decode cX1_countSteps 11 = .ok (.isub, 1) := by decide +kernel
theorem dX1_countSteps_12 : decode cX1_countSteps 12 = .ok (.ireturn, 1) := by decide +kernel
def fX1_countSteps (jr : Int32) (jk : Int32) (jc : Int32) (jg : Int32) (jaf : Nat → Int32) (jbf : Nat → Int32) : Option (Int32) := ((fX1_skippedSet jr jk jc jg jaf jbf).bind fun x_1 => ((fJ6_bitCount_0f7a4 x_1).bind fun x_5 => some (jk - x_5)))
abbrev hX1_countSteps : Cond := .code yX1_countSteps cX1_countSteps 1 (some .int)
theorem mX1_countSteps : yM yX1_countSteps hX1_countSteps 0 := ⟨u_331, u_58, by decide +kernel, by decide +kernel, by decide +kernel⟩
set_option maxHeartbeats 4000000 in
set_option maxRecDepth 100000 in
theorem kX1_countSteps (l : Launch) (D : va_G) (cy : Nat → ClassId) (j : Nat) (ja : Nat) (jb : Nat) (jr : Int32) (jk : Int32) (jc : Int32) (jg : Int32) (js : Int32) (jan : Nat) (jaf : Nat → Int32) (jbn : Nat) (jbf : Nat → Int32) {res : Int32} (hR : fX1_countSteps jr jk jc jg jaf jbf = some res) : YM l D cy yX1_countSteps hX1_countSteps 4 0 0 [.ref j] [[(j, .inr (3, [.ref ja, .ref jb, .int jr, .int jk, .int jc, .int jg, .int js]))], [(ja, .inr (6, [.ref jan]))], [(jan, .inl (cy 1, 81, .inl jaf))], [(jb, .inr (6, [.ref jbn]))], [(jbn, .inl (cy 1, 81, .inl jbf))]] (fun v u => v = some (.int res) ∧ u = [[(j, .inr (3, [.ref ja, .ref jb, .int jr, .int jk, .int jc, .int jg, .int js]))], [(ja, .inr (6, [.ref jan]))], [(jan, .inl (cy 1, 81, .inl jaf))], [(jb, .inr (6, [.ref jbn]))], [(jbn, .inl (cy 1, 81, .inl jbf))]]) := by
  unfold fX1_countSteps at hR
  refine YM.ofI (cc := cX1_countSteps) (maxL := 1) (ret := (some .int)) (by decide +kernel) rfl (Nat.le_of_ble_eq_true rfl) [(0, .ref j)] rfl rfl (fun p e s m args below meth c A H0 Q C hnm ret => ?_)
  refine xr_aload_n (n := 1) (j := 0) C dX1_countSteps_0 rfl rfl ?_
  refine xr_get (n := 4) C 0 rfl rfl 3 (by decide) in_X1 u_115 rfl (v := .int jk) rfl dX1_countSteps_1 rfl ?_
  refine xr_aload_n (n := 5) (j := 0) C dX1_countSteps_4 rfl rfl ?_
  obtain ⟨x_1, hx_1, hR⟩ := yf_b hR
  refine xr_callVp (n := 8) (As := []) (rest := [.int jk]) C (kX1_skippedSet l D cy (j := j) (ja := ja) (jb := jb) (jr := jr) (jk := jk) (jc := jc) (jg := jg) (js := js) (jan := jan) (jaf := jaf) (jbn := jbn) (jbf := jbf) hx_1) mX1_skippedSet u_332 u_333 u_334 0 rfl rfl [0, 1, 2, 3, 4] [] rfl rfl rfl rfl rfl (Nat.le_of_ble_eq_true rfl) (Nat.le_of_ble_eq_true rfl) (Nat.le_of_ble_eq_true rfl) (Nat.le_of_ble_eq_true rfl) (Nat.le_of_ble_eq_true rfl) dX1_countSteps_5 rfl (fun _ _ hp => hp.2) (fun v_2 hp_4 => ?_)
  obtain ⟨rfl, -⟩ := hp_4
  refine xr_st (st' := [.int x_1, .int jk]) rfl ?_
  obtain ⟨x_5, hx_5, hR⟩ := yf_b hR
  refine xr_callSp (n := 11) (As := [.int x_1]) (rest := [.int jk]) C (kJ6_bitCount_0f7a4 l D cy (i1 := x_1) hx_5) mJ6_bitCount_0f7a4 u_348 u_349 [] [0, 1, 2, 3, 4] rfl rfl rfl rfl rfl (Nat.le_of_ble_eq_true rfl) (Nat.le_of_ble_eq_true rfl) (Nat.le_of_ble_eq_true rfl) (Nat.le_of_ble_eq_true rfl) (Nat.le_of_ble_eq_true rfl) dX1_countSteps_8 rfl (fun _ _ hp => hp.2) (fun v_6 hp_8 => ?_)
  obtain ⟨rfl, -⟩ := hp_8
  refine xr_st (st' := [.int x_5, .int jk]) rfl ?_
  refine xr_isub (n := 12) C dX1_countSteps_11 rfl ?_
  obtain rfl := Option.some.inj hR
  exact ret (jk - x_5) ⟨rfl, rfl⟩ (Nat.le_of_ble_eq_true rfl) (Nat.le_of_ble_eq_true rfl) dX1_countSteps_12
theorem dX2_countPieces_0 : decode cX2_countPieces 0 = .ok (.iload_n 1, 1) := by decide +kernel
theorem dX2_countPieces_1 : decode cX2_countPieces 1 = .ok (.iconst 1, 1) := by decide +kernel
theorem dX2_countPieces_2 : decode cX2_countPieces 2 = .ok (.if_icmp .ge 7, 3) := by decide +kernel
theorem dX2_countPieces_5 : decode cX2_countPieces 5 = .ok (.iconst 0, 1) := by decide +kernel
theorem dX2_countPieces_6 : decode cX2_countPieces 6 = .ok (.goto 10, 3) := by decide +kernel
theorem dX2_countPieces_9 : decode cX2_countPieces 9 = .ok (.iload_n 0, 1) := by decide +kernel
theorem dX2_countPieces_10 : decode cX2_countPieces 10 = .ok (.iload_n 1, 1) := by decide +kernel
theorem dX2_countPieces_11 : decode cX2_countPieces 11 = .ok (.iadd, 1) := by decide +kernel
theorem dX2_countPieces_12 : decode cX2_countPieces 12 = .ok (.iconst 1, 1) := by decide +kernel
theorem dX2_countPieces_13 : decode cX2_countPieces 13 = .ok (.isub, 1) := by decide +kernel
theorem dX2_countPieces_14 : decode cX2_countPieces 14 = .ok (.iload_n 1, 1) := by decide +kernel
theorem dX2_countPieces_15 : decode cX2_countPieces 15 = .ok (.idiv, 1) := by decide +kernel
theorem dX2_countPieces_16 : decode cX2_countPieces 16 = .ok (.ireturn, 1) := by decide +kernel
def fX2_countPieces (i1 : Int32) (i2 : Int32) : Option (Int32) := (if 1 ≤ i2 then (if ¬ i2 = 0 then some (((i1 + i2) - 1) / i2) else none) else some 0)
abbrev hX2_countPieces : Cond := .code yX2_countPieces cX2_countPieces 2 (some .int)
theorem mX2_countPieces : yM yX2_countPieces hX2_countPieces 2 := ⟨u_361, u_63, by decide +kernel, by decide +kernel, by decide +kernel⟩
set_option maxHeartbeats 4000000 in
set_option maxRecDepth 100000 in
theorem kX2_countPieces (l : Launch) (D : va_G) (cy : Nat → ClassId) (i1 : Int32) (i2 : Int32) {res : Int32} (hR : fX2_countPieces i1 i2 = some res) : YM l D cy yX2_countPieces hX2_countPieces 1 0 0 [.int i1, .int i2] [] (fun v u => v = some (.int res) ∧ u = []) := by
  unfold fX2_countPieces at hR
  refine YM.ofI (cc := cX2_countPieces) (maxL := 2) (ret := (some .int)) (by decide +kernel) rfl (Nat.le_of_ble_eq_true rfl) [(0, .int i1), (1, .int i2)] rfl rfl (fun p e s m args below meth c A H0 Q C hnm ret => ?_)
  refine xr_iload_n (n := 1) (j := 1) C dX2_countPieces_0 rfl rfl ?_
  refine xr_iconst (n := 2) (v := 1) C dX2_countPieces_1 rfl rfl ?_
  refine xr_icmp_ge (tgt := 9) (n := 5) C dX2_countPieces_2 rfl rfl (fun c_1 => ?_) (fun c_1 => ?_)
  · replace hR := yf_t c_1 hR
    refine xr_iload_n (n := 10) (j := 0) C dX2_countPieces_9 rfl rfl ?_
    refine xr_iload_n (n := 11) (j := 1) C dX2_countPieces_10 rfl rfl ?_
    refine xr_iadd (n := 12) C dX2_countPieces_11 rfl ?_
    refine xr_iconst (n := 13) (v := 1) C dX2_countPieces_12 rfl rfl ?_
    refine xr_isub (n := 14) C dX2_countPieces_13 rfl ?_
    refine xr_iload_n (n := 15) (j := 1) C dX2_countPieces_14 rfl rfl ?_
    obtain ⟨g_2, hR⟩ := yf_g hR
    refine xr_idiv (n := 16) C dX2_countPieces_15 g_2 rfl ?_
    obtain rfl := Option.some.inj hR
    exact ret (((i1 + i2) - 1) / i2) ⟨rfl, rfl⟩ (Nat.le_of_ble_eq_true rfl) (Nat.le_of_ble_eq_true rfl) dX2_countPieces_16
  · replace hR := yf_f c_1 hR
    refine xr_iconst (n := 6) (v := 0) C dX2_countPieces_5 rfl rfl ?_
    refine xr_goto (tgt := 16) C dX2_countPieces_6 rfl ?_
    obtain rfl := Option.some.inj hR
    exact ret 0 ⟨rfl, rfl⟩ (Nat.le_of_ble_eq_true rfl) (Nat.le_of_ble_eq_true rfl) dX2_countPieces_16
theorem dX2_countTiles_0 : decode cX2_countTiles 0 = .ok (.aload_n 0, 1) := by decide +kernel
theorem dX2_countTiles_1 : decode cX2_countTiles 1 = .ok (.getfield 31, 3) := by decide +kernel
theorem dX2_countTiles_4 : decode cX2_countTiles 4 = .ok (.aload_n 0, 1) := by decide +kernel
theorem dX2_countTiles_5 : decode cX2_countTiles 5 = .ok (.getfield 34, 3) := by decide +kernel
theorem dX2_countTiles_8 : decode cX2_countTiles 8 = .ok (.imul, 1) := by decide +kernel
theorem dX2_countTiles_9 : decode cX2_countTiles 9 = .ok (.ireturn, 1) := by decide +kernel
def fX2_countTiles (y7 : Int32) (y8 : Int32) : Option (Int32) := some (y7 * y8)
abbrev hX2_countTiles : Cond := .code yX2_countTiles cX2_countTiles 1 (some .int)
theorem mX2_countTiles : yM yX2_countTiles hX2_countTiles 0 := ⟨u_369, u_63, by decide +kernel, by decide +kernel, by decide +kernel⟩
set_option maxHeartbeats 4000000 in
set_option maxRecDepth 100000 in
theorem kX2_countTiles (l : Launch) (D : va_G) (cy : Nat → ClassId) (y : Nat) (y0 : Int32) (y1 : Int32) (y2 : Int32) (y3 : Int32) (y4 : Int32) (y5 : Int32) (y6 : Int32) (y7 : Int32) (y8 : Int32) (y9 : Int32) {res : Int32} (hR : fX2_countTiles y7 y8 = some res) : YM l D cy yX2_countTiles hX2_countTiles 1 0 0 [.ref y] [[(y, .inr (4, [.int y0, .int y1, .int y2, .int y3, .int y4, .int y5, .int y6, .int y7, .int y8, .int y9]))]] (fun v u => v = some (.int res) ∧ u = [[(y, .inr (4, [.int y0, .int y1, .int y2, .int y3, .int y4, .int y5, .int y6, .int y7, .int y8, .int y9]))]]) := by
  unfold fX2_countTiles at hR
  refine YM.ofI (cc := cX2_countTiles) (maxL := 1) (ret := (some .int)) (by decide +kernel) rfl (Nat.le_of_ble_eq_true rfl) [(0, .ref y)] rfl rfl (fun p e s m args below meth c A H0 Q C hnm ret => ?_)
  refine xr_aload_n (n := 1) (j := 0) C dX2_countTiles_0 rfl rfl ?_
  refine xr_get (n := 4) C 0 rfl rfl 7 (by decide) in_X2 u_222 rfl (v := .int y7) rfl dX2_countTiles_1 rfl ?_
  refine xr_aload_n (n := 5) (j := 0) C dX2_countTiles_4 rfl rfl ?_
  refine xr_get (n := 8) C 0 rfl rfl 8 (by decide) in_X2 u_223 rfl (v := .int y8) rfl dX2_countTiles_5 rfl ?_
  refine xr_imul (n := 9) C dX2_countTiles_8 rfl ?_
  obtain rfl := Option.some.inj hR
  exact ret (y7 * y8) ⟨rfl, rfl⟩ (Nat.le_of_ble_eq_true rfl) (Nat.le_of_ble_eq_true rfl) dX2_countTiles_9
theorem dX2_countEdges_0 : decode cX2_countEdges 0 = .ok (.aload_n 0, 1) := by decide +kernel
theorem dX2_countEdges_1 : decode cX2_countEdges 1 = .ok (.getfield 7, 3) := by decide +kernel
theorem dX2_countEdges_4 : decode cX2_countEdges 4 = .ok (.aload_n 0, 1) := by decide +kernel
theorem dX2_countEdges_5 : decode cX2_countEdges 5 = .ok (.getfield 34, 3) := by decide +kernel
theorem dX2_countEdges_8 : decode cX2_countEdges 8 = .ok (.imul, 1) := by decide +kernel
theorem dX2_countEdges_9 : decode cX2_countEdges 9 = .ok (.aload_n 0, 1) := by decide +kernel
theorem dX2_countEdges_10 : decode cX2_countEdges 10 = .ok (.getfield 13, 3) := by decide +kernel
theorem dX2_countEdges_13 : decode cX2_countEdges 13 = .ok (.aload_n 0, 1) := by decide +kernel
theorem dX2_countEdges_14 : decode cX2_countEdges 14 = .ok (.getfield 31, 3) := by decide +kernel
theorem dX2_countEdges_17 : decode cX2_countEdges 17 = .ok (.imul, 1) := by decide +kernel
theorem dX2_countEdges_18 : decode cX2_countEdges 18 = .ok (.iadd, 1) := by decide +kernel
theorem dX2_countEdges_19 : decode cX2_countEdges 19 = .ok (.ireturn, 1) := by decide +kernel
def fX2_countEdges (y0 : Int32) (y1 : Int32) (y7 : Int32) (y8 : Int32) : Option (Int32) := some ((y0 * y8) + (y1 * y7))
abbrev hX2_countEdges : Cond := .code yX2_countEdges cX2_countEdges 1 (some .int)
theorem mX2_countEdges : yM yX2_countEdges hX2_countEdges 0 := ⟨u_365, u_63, by decide +kernel, by decide +kernel, by decide +kernel⟩
set_option maxHeartbeats 4000000 in
set_option maxRecDepth 100000 in
theorem kX2_countEdges (l : Launch) (D : va_G) (cy : Nat → ClassId) (y : Nat) (y0 : Int32) (y1 : Int32) (y2 : Int32) (y3 : Int32) (y4 : Int32) (y5 : Int32) (y6 : Int32) (y7 : Int32) (y8 : Int32) (y9 : Int32) {res : Int32} (hR : fX2_countEdges y0 y1 y7 y8 = some res) : YM l D cy yX2_countEdges hX2_countEdges 1 0 0 [.ref y] [[(y, .inr (4, [.int y0, .int y1, .int y2, .int y3, .int y4, .int y5, .int y6, .int y7, .int y8, .int y9]))]] (fun v u => v = some (.int res) ∧ u = [[(y, .inr (4, [.int y0, .int y1, .int y2, .int y3, .int y4, .int y5, .int y6, .int y7, .int y8, .int y9]))]]) := by
  unfold fX2_countEdges at hR
  refine YM.ofI (cc := cX2_countEdges) (maxL := 1) (ret := (some .int)) (by decide +kernel) rfl (Nat.le_of_ble_eq_true rfl) [(0, .ref y)] rfl rfl (fun p e s m args below meth c A H0 Q C hnm ret => ?_)
  refine xr_aload_n (n := 1) (j := 0) C dX2_countEdges_0 rfl rfl ?_
  refine xr_get (n := 4) C 0 rfl rfl 0 (by decide) in_X2 u_205 rfl (v := .int y0) rfl dX2_countEdges_1 rfl ?_
  refine xr_aload_n (n := 5) (j := 0) C dX2_countEdges_4 rfl rfl ?_
  refine xr_get (n := 8) C 0 rfl rfl 8 (by decide) in_X2 u_223 rfl (v := .int y8) rfl dX2_countEdges_5 rfl ?_
  refine xr_imul (n := 9) C dX2_countEdges_8 rfl ?_
  refine xr_aload_n (n := 10) (j := 0) C dX2_countEdges_9 rfl rfl ?_
  refine xr_get (n := 13) C 0 rfl rfl 1 (by decide) in_X2 u_207 rfl (v := .int y1) rfl dX2_countEdges_10 rfl ?_
  refine xr_aload_n (n := 14) (j := 0) C dX2_countEdges_13 rfl rfl ?_
  refine xr_get (n := 17) C 0 rfl rfl 7 (by decide) in_X2 u_222 rfl (v := .int y7) rfl dX2_countEdges_14 rfl ?_
  refine xr_imul (n := 18) C dX2_countEdges_17 rfl ?_
  refine xr_iadd (n := 19) C dX2_countEdges_18 rfl ?_
  obtain rfl := Option.some.inj hR
  exact ret ((y0 * y8) + (y1 * y7)) ⟨rfl, rfl⟩ (Nat.le_of_ble_eq_true rfl) (Nat.le_of_ble_eq_true rfl) dX2_countEdges_19
