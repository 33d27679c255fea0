theorem u_222 : Cond.fieldLink RX2 31 "Pulsemesh$Layout" "tilesDown" "I" ∈ yU := yu_tables_1_1 166 (by decide +kernel) (by decide +kernel)
theorem u_223 : Cond.fieldLink RX2 34 "Pulsemesh$Layout" "tilesAcross" "I" ∈ yU := yu_tables_1_1 167 (by decide +kernel) (by decide +kernel)
theorem u_369 : Cond.code yX2_countTiles cX2_countTiles 1 (some .int) ∈ yU := yu_tables_1_2 73 (by decide +kernel) (by decide +kernel)
theorem u_205 : Cond.fieldLink RX2 7 "Pulsemesh$Layout" "jobRows" "I" ∈ yU := yu_tables_1_1 149 (by decide +kernel) (by decide +kernel)
theorem u_207 : Cond.fieldLink RX2 13 "Pulsemesh$Layout" "jobColumns" "I" ∈ yU := yu_tables_1_1 151 (by decide +kernel) (by decide +kernel)
theorem u_365 : Cond.code yX2_countEdges cX2_countEdges 1 (some .int) ∈ yU := yu_tables_1_2 69 (by decide +kernel) (by decide +kernel)
theorem u_362 : Cond.methodLink RX2 62 yX2_countEdges ∈ yU := yu_tables_1_2 66 (by decide +kernel) (by decide +kernel)
theorem u_364 : Cond.instanceMethod yX2_countEdges ∈ yU := yu_tables_1_2 68 (by decide +kernel) (by decide +kernel)
theorem u_3 : Cond.selects RX2 yX2_countEdges yX2_countEdges ∈ yU := yu 3 (by decide +kernel) (by decide +kernel)
theorem u_209 : Cond.fieldLink RX2 16 "Pulsemesh$Layout" "steps" "I" ∈ yU := yu_tables_1_1 153 (by decide +kernel) (by decide +kernel)
theorem u_549 : Cond.code yX2_countFed cX2_countFed 1 (some .int) ∈ yU := yu_tables_1_3 13 (by decide +kernel) (by decide +kernel)
theorem u_320 : Cond.methodLink RX2 40 yX1_rowsInAll ∈ yU := yu_tables_1_2 24 (by decide +kernel) (by decide +kernel)
theorem u_321 : Cond.instanceMethod yX1_rowsInAll ∈ yU := yu_tables_1_2 25 (by decide +kernel) (by decide +kernel)
theorem u_322 : Cond.selects RX1 yX1_rowsInAll yX1_rowsInAll ∈ yU := yu_tables_1_2 26 (by decide +kernel) (by decide +kernel)
theorem u_324 : Cond.methodLink RX2 46 yX1_columnsInAll ∈ yU := yu_tables_1_2 28 (by decide +kernel) (by decide +kernel)
theorem u_325 : Cond.instanceMethod yX1_columnsInAll ∈ yU := yu_tables_1_2 29 (by decide +kernel) (by decide +kernel)
theorem u_326 : Cond.selects RX1 yX1_columnsInAll yX1_columnsInAll ∈ yU := yu_tables_1_2 30 (by decide +kernel) (by decide +kernel)
theorem u_328 : Cond.methodLink RX2 49 yX1_countSteps ∈ yU := yu_tables_1_2 32 (by decide +kernel) (by decide +kernel)
theorem u_329 : Cond.instanceMethod yX1_countSteps ∈ yU := yu_tables_1_2 33 (by decide +kernel) (by decide +kernel)
theorem u_330 : Cond.selects RX1 yX1_countSteps yX1_countSteps ∈ yU := yu_tables_1_2 34 (by decide +kernel) (by decide +kernel)
theorem u_319 : Cond.code yX2_measure cX2_measure 2 none ∈ yU := yu_tables_1_2 23 (by decide +kernel) (by decide +kernel)
theorem u_212 : Cond.fieldLink RX2 19 "Pulsemesh$Layout" "rows" "I" ∈ yU := yu_tables_1_1 156 (by decide +kernel) (by decide +kernel)
theorem u_215 : Cond.fieldLink RX2 22 "Pulsemesh$Layout" "columns" "I" ∈ yU := yu_tables_1_1 159 (by decide +kernel) (by decide +kernel)
theorem u_358 : Cond.methodLink RX2 52 yJ6_bitCount_0f7a4 ∈ yU := yu_tables_1_2 62 (by decide +kernel) (by decide +kernel)
theorem u_218 : Cond.fieldLink RX2 25 "Pulsemesh$Layout" "height" "I" ∈ yU := yu_tables_1_1 162 (by decide +kernel) (by decide +kernel)
theorem u_220 : Cond.fieldLink RX2 28 "Pulsemesh$Layout" "width" "I" ∈ yU := yu_tables_1_1 164 (by decide +kernel) (by decide +kernel)
theorem u_359 : Cond.methodLink RX2 58 yX2_countPieces ∈ yU := yu_tables_1_2 63 (by decide +kernel) (by decide +kernel)
theorem u_360 : Cond.static yX2_countPieces ∈ yU := yu_tables_1_2 64 (by decide +kernel) (by decide +kernel)
theorem u_366 : Cond.methodLink RX2 65 yX2_countTiles ∈ yU := yu_tables_1_2 70 (by decide +kernel) (by decide +kernel)
theorem u_367 : Cond.instanceMethod yX2_countTiles ∈ yU := yu_tables_1_2 71 (by decide +kernel) (by decide +kernel)
theorem u_368 : Cond.selects RX2 yX2_countTiles yX2_countTiles ∈ yU := yu_tables_1_2 72 (by decide +kernel) (by decide +kernel)
theorem u_224 : Cond.fieldLink RX2 37 "Pulsemesh$Layout" "beatsInAll" "I" ∈ yU := yu_tables_1_1 168 (by decide +kernel) (by decide +kernel)
theorem u_357 : Cond.code yX2_lay cX2_lay 3 none ∈ yU := yu_tables_1_2 61 (by decide +kernel) (by decide +kernel)
theorem u_775 : Cond.methodLink RX2 68 yX2_lay ∈ yU := yu_tables_1_3 239 (by decide +kernel) (by decide +kernel)
theorem u_355 : Cond.instanceMethod yX2_lay ∈ yU := yu_tables_1_2 59 (by decide +kernel) (by decide +kernel)
theorem u_356 : Cond.selects RX2 yX2_lay yX2_lay ∈ yU := yu_tables_1_2 60 (by decide +kernel) (by decide +kernel)
theorem u_774 : Cond.code yX2_copyFrom cX2_copyFrom 2 none ∈ yU := yu_tables_1_3 238 (by decide +kernel) (by decide +kernel)
theorem dd_X2_countTiles_0 : dk_R cX2_countTiles [(0, .aload_n 0, 1), (1, .getfield 31, 3), (4, .aload_n 0, 1), (5, .getfield 34, 3), (8, .imul, 1), (9, .ireturn, 1)] := dk_use _ _ (by decide +kernel)
def fX2_countTiles (y7 : Int32) (y8 : Int32) : Option (Int32) := some (y7 * y8)
abbrev hX2_countTiles : Cond := .code yX2_countTiles cX2_countTiles 1 (some .int)
theorem mX2_countTiles : yM yX2_countTiles hX2_countTiles 0 := ⟨u_369, u_63, by decide +kernel, by decide +kernel, by decide +kernel⟩
set_option maxHeartbeats 4000000 in
set_option maxRecDepth 100000 in
theorem kX2_countTiles (l : Launch) (D : va_G) (cy : Nat → ClassId) (y : Nat) (y0 : Int32) (y1 : Int32) (y2 : Int32) (y3 : Int32) (y4 : Int32) (y5 : Int32) (y6 : Int32) (y7 : Int32) (y8 : Int32) (y9 : Int32) {res : Int32} (hR : fX2_countTiles y7 y8 = some res) : YM l D cy yX2_countTiles hX2_countTiles 1 0 0 [.ref y] [[(y, .inr (4, [.int y0, .int y1, .int y2, .int y3, .int y4, .int y5, .int y6, .int y7, .int y8, .int y9]))]] (fun v u => v = some (.int res) ∧ u = [[(y, .inr (4, [.int y0, .int y1, .int y2, .int y3, .int y4, .int y5, .int y6, .int y7, .int y8, .int y9]))]]) := by
  unfold fX2_countTiles at hR
  refine YM.ofI (cc := cX2_countTiles) (maxL := 1) (ret := (some .int)) (by decide +kernel) rfl (Nat.le_of_ble_eq_true rfl) [(0, .ref y)] rfl rfl (fun p e s m args below meth c A H0 Q C hnm ret => ?_)
  refine xr_aload_n (n := 1) (j := 0) C dd_X2_countTiles_0.1 rfl rfl ?_
  refine xr_get (n := 4) C 0 rfl rfl 7 (by decide) in_X2 u_222 rfl (v := .int y7) rfl dd_X2_countTiles_0.2.1 rfl ?_
  refine xr_aload_n (n := 5) (j := 0) C dd_X2_countTiles_0.2.2.1 rfl rfl ?_
  refine xr_get (n := 8) C 0 rfl rfl 8 (by decide) in_X2 u_223 rfl (v := .int y8) rfl dd_X2_countTiles_0.2.2.2.1 rfl ?_
  refine xr_imul (n := 9) C dd_X2_countTiles_0.2.2.2.2.1 rfl ?_
  obtain rfl := Option.some.inj hR
  exact ret (y7 * y8) ⟨rfl, rfl⟩ (Nat.le_of_ble_eq_true rfl) (Nat.le_of_ble_eq_true rfl) dd_X2_countTiles_0.2.2.2.2.2.1
theorem dd_X2_countEdges_0 : dk_R cX2_countEdges [(0, .aload_n 0, 1), (1, .getfield 7, 3), (4, .aload_n 0, 1), (5, .getfield 34, 3), (8, .imul, 1), (9, .aload_n 0, 1), (10, .getfield 13, 3), (13, .aload_n 0, 1), (14, .getfield 31, 3), (17, .imul, 1), (18, .iadd, 1), (19, .ireturn, 1)] := dk_use _ _ (by decide +kernel)
def fX2_countEdges (y0 : Int32) (y1 : Int32) (y7 : Int32) (y8 : Int32) : Option (Int32) := some ((y0 * y8) + (y1 * y7))
abbrev hX2_countEdges : Cond := .code yX2_countEdges cX2_countEdges 1 (some .int)
theorem mX2_countEdges : yM yX2_countEdges hX2_countEdges 0 := ⟨u_365, u_63, by decide +kernel, by decide +kernel, by decide +kernel⟩
set_option maxHeartbeats 4000000 in
set_option maxRecDepth 100000 in
theorem kX2_countEdges (l : Launch) (D : va_G) (cy : Nat → ClassId) (y : Nat) (y0 : Int32) (y1 : Int32) (y2 : Int32) (y3 : Int32) (y4 : Int32) (y5 : Int32) (y6 : Int32) (y7 : Int32) (y8 : Int32) (y9 : Int32) {res : Int32} (hR : fX2_countEdges y0 y1 y7 y8 = some res) : YM l D cy yX2_countEdges hX2_countEdges 1 0 0 [.ref y] [[(y, .inr (4, [.int y0, .int y1, .int y2, .int y3, .int y4, .int y5, .int y6, .int y7, .int y8, .int y9]))]] (fun v u => v = some (.int res) ∧ u = [[(y, .inr (4, [.int y0, .int y1, .int y2, .int y3, .int y4, .int y5, .int y6, .int y7, .int y8, .int y9]))]]) := by
  unfold fX2_countEdges at hR
  refine YM.ofI (cc := cX2_countEdges) (maxL := 1) (ret := (some .int)) (by decide +kernel) rfl (Nat.le_of_ble_eq_true rfl) [(0, .ref y)] rfl rfl (fun p e s m args below meth c A H0 Q C hnm ret => ?_)
  refine xr_aload_n (n := 1) (j := 0) C dd_X2_countEdges_0.1 rfl rfl ?_
  refine xr_get (n := 4) C 0 rfl rfl 0 (by decide) in_X2 u_205 rfl (v := .int y0) rfl dd_X2_countEdges_0.2.1 rfl ?_
  refine xr_aload_n (n := 5) (j := 0) C dd_X2_countEdges_0.2.2.1 rfl rfl ?_
  refine xr_get (n := 8) C 0 rfl rfl 8 (by decide) in_X2 u_223 rfl (v := .int y8) rfl dd_X2_countEdges_0.2.2.2.1 rfl ?_
  refine xr_imul (n := 9) C dd_X2_countEdges_0.2.2.2.2.1 rfl ?_
  refine xr_aload_n (n := 10) (j := 0) C dd_X2_countEdges_0.2.2.2.2.2.1 rfl rfl ?_
  refine xr_get (n := 13) C 0 rfl rfl 1 (by decide) in_X2 u_207 rfl (v := .int y1) rfl dd_X2_countEdges_0.2.2.2.2.2.2.1 rfl ?_
  refine xr_aload_n (n := 14) (j := 0) C dd_X2_countEdges_0.2.2.2.2.2.2.2.1 rfl rfl ?_
  refine xr_get (n := 17) C 0 rfl rfl 7 (by decide) in_X2 u_222 rfl (v := .int y7) rfl dd_X2_countEdges_0.2.2.2.2.2.2.2.2.1 rfl ?_
  refine xr_imul (n := 18) C dd_X2_countEdges_0.2.2.2.2.2.2.2.2.2.1 rfl ?_
  refine xr_iadd (n := 19) C dd_X2_countEdges_0.2.2.2.2.2.2.2.2.2.2.1 rfl ?_
  obtain rfl := Option.some.inj hR
  exact ret ((y0 * y8) + (y1 * y7)) ⟨rfl, rfl⟩ (Nat.le_of_ble_eq_true rfl) (Nat.le_of_ble_eq_true rfl) dd_X2_countEdges_0.2.2.2.2.2.2.2.2.2.2.2.1
theorem dd_X2_countFed_0 : dk_R cX2_countFed [(0, .aload_n 0, 1), (1, .invokevirtual 62, 3), (4, .aload_n 0, 1), (5, .getfield 16, 3), (8, .imul, 1), (9, .ireturn, 1)] := dk_use _ _ (by decide +kernel)
def fX2_countFed (y0 : Int32) (y1 : Int32) (y2 : Int32) (y7 : Int32) (y8 : Int32) : Option (Int32) := ((fX2_countEdges y0 y1 y7 y8).bind fun x_1 => some (x_1 * y2))
abbrev hX2_countFed : Cond := .code yX2_countFed cX2_countFed 1 (some .int)
theorem mX2_countFed : yM yX2_countFed hX2_countFed 0 := ⟨u_549, u_63, by decide +kernel, by decide +kernel, by decide +kernel⟩
set_option maxHeartbeats 4000000 in
set_option maxRecDepth 100000 in
theorem kX2_countFed (l : Launch) (D : va_G) (cy : Nat → ClassId) (y : Nat) (y0 : Int32) (y1 : Int32) (y2 : Int32) (y3 : Int32) (y4 : Int32) (y5 : Int32) (y6 : Int32) (y7 : Int32) (y8 : Int32) (y9 : Int32) {res : Int32} (hR : fX2_countFed y0 y1 y2 y7 y8 = some res) : YM l D cy yX2_countFed hX2_countFed 2 0 0 [.ref y] [[(y, .inr (4, [.int y0, .int y1, .int y2, .int y3, .int y4, .int y5, .int y6, .int y7, .int y8, .int y9]))]] (fun v u => v = some (.int res) ∧ u = [[(y, .inr (4, [.int y0, .int y1, .int y2, .int y3, .int y4, .int y5, .int y6, .int y7, .int y8, .int y9]))]]) := by
  unfold fX2_countFed at hR
  refine YM.ofI (cc := cX2_countFed) (maxL := 1) (ret := (some .int)) (by decide +kernel) rfl (Nat.le_of_ble_eq_true rfl) [(0, .ref y)] rfl rfl (fun p e s m args below meth c A H0 Q C hnm ret => ?_)
  refine xr_aload_n (n := 1) (j := 0) C dd_X2_countFed_0.1 rfl rfl ?_
  obtain ⟨x_1, hx_1, hR⟩ := yf_b hR
  refine xr_callVp (n := 4) (As := []) (rest := []) C (kX2_countEdges l D cy (y := y) (y0 := y0) (y1 := y1) (y2 := y2) (y3 := y3) (y4 := y4) (y5 := y5) (y6 := y6) (y7 := y7) (y8 := y8) (y9 := y9) hx_1) mX2_countEdges u_362 u_364 u_3 0 rfl rfl 1 [0] [] rfl (by decide +kernel) rfl rfl rfl rfl (Nat.le_of_ble_eq_true rfl) (Nat.le_of_ble_eq_true rfl) (Nat.le_of_ble_eq_true rfl) (Nat.le_of_ble_eq_true rfl) (Nat.le_of_ble_eq_true rfl) dd_X2_countFed_0.2.1 rfl (fun _ _ hp => hp.2) (fun v_2 hp_4 => ?_)
  obtain ⟨rfl, -⟩ := hp_4
  refine xr_st (st' := [.int x_1]) rfl ?_
  refine xr_aload_n (n := 5) (j := 0) C dd_X2_countFed_0.2.2.1 rfl rfl ?_
  refine xr_get (n := 8) C 0 rfl rfl 2 (by decide) in_X2 u_209 rfl (v := .int y2) rfl dd_X2_countFed_0.2.2.2.1 rfl ?_
  refine xr_imul (n := 9) C dd_X2_countFed_0.2.2.2.2.1 rfl ?_
  obtain rfl := Option.some.inj hR
  exact ret (x_1 * y2) ⟨rfl, rfl⟩ (Nat.le_of_ble_eq_true rfl) (Nat.le_of_ble_eq_true rfl) dd_X2_countFed_0.2.2.2.2.2.1
theorem dd_X2_measure_0 : dk_R cX2_measure [(0, .aload_n 0, 1), (1, .aload_n 1, 1), (2, .invokevirtual 40, 3), (5, .putfield 7, 3), (8, .aload_n 0, 1), (9, .aload_n 1, 1), (10, .invokevirtual 46, 3), (13, .putfield 13, 3), (16, .aload_n 0, 1), (17, .aload_n 1, 1), (18, .invokevirtual 49, 3), (21, .putfield 16, 3), (24, .return_, 1)] := dk_use _ _ (by decide +kernel)
def fX2_measure (jr : Int32) (jk : Int32) (jc : Int32) (jg : Int32) (js : Int32) (jaf : Nat → Int32) (jbf : Nat → Int32) : Option (Int32 × Int32 × Int32) := ((fX1_rowsInAll jr js).bind fun x_1 => ((fX1_columnsInAll jc js).bind fun x_5 => ((fX1_countSteps jr jk jc jg jaf jbf).bind fun x_9 => some (x_1, x_5, x_9))))
abbrev hX2_measure : Cond := .code yX2_measure cX2_measure 2 none
theorem mX2_measure : yM yX2_measure hX2_measure 1 := ⟨u_319, u_63, by decide +kernel, by decide +kernel, by decide +kernel⟩
set_option maxHeartbeats 4000000 in
set_option maxRecDepth 100000 in
theorem kX2_measure (l : Launch) (D : va_G) (cy : Nat → ClassId) (y : Nat) (y0 : Int32) (y1 : Int32) (y2 : Int32) (y3 : Int32) (y4 : Int32) (y5 : Int32) (y6 : Int32) (y7 : Int32) (y8 : Int32) (y9 : Int32) (j : Nat) (ja : Nat) (jb : Nat) (jr : Int32) (jk : Int32) (jc : Int32) (jg : Int32) (js : Int32) (jan : Nat) (jaf : Nat → Int32) (jbn : Nat) (jbf : Nat → Int32) {res : Int32 × Int32 × Int32} (hR : fX2_measure jr jk jc jg js jaf jbf = some res) : YM l D cy yX2_measure hX2_measure 5 0 0 [.ref y, .ref j] [[(y, .inr (4, [.int y0, .int y1, .int y2, .int y3, .int y4, .int y5, .int y6, .int y7, .int y8, .int y9]))], [(j, .inr (3, [.ref ja, .ref jb, .int jr, .int jk, .int jc, .int jg, .int js]))], [(ja, .inr (6, [.ref jan]))], [(jan, .inl (cy 1, 81, .inl jaf))], [(jb, .inr (6, [.ref jbn]))], [(jbn, .inl (cy 1, 81, .inl jbf))]] (fun v u => v = none ∧ u = [[(y, .inr (4, [.int res.1, .int res.2.1, .int res.2.2, .int y3, .int y4, .int y5, .int y6, .int y7, .int y8, .int y9]))], [(j, .inr (3, [.ref ja, .ref jb, .int jr, .int jk, .int jc, .int jg, .int js]))], [(ja, .inr (6, [.ref jan]))], [(jan, .inl (cy 1, 81, .inl jaf))], [(jb, .inr (6, [.ref jbn]))], [(jbn, .inl (cy 1, 81, .inl jbf))]]) := by
  unfold fX2_measure at hR
  refine YM.ofV (cc := cX2_measure) (maxL := 2) (ret := none) (by decide +kernel) rfl (Nat.le_of_ble_eq_true rfl) [(0, .ref y), (1, .ref j)] rfl rfl (fun p e s m args below meth c A H0 Q C hnm ret => ?_)
  refine xr_aload_n (n := 1) (j := 0) C dd_X2_measure_0.1 rfl rfl ?_
  refine xr_aload_n (n := 2) (j := 1) C dd_X2_measure_0.2.1 rfl rfl ?_
  obtain ⟨x_1, hx_1, hR⟩ := yf_b hR
  refine xr_callVp (n := 5) (As := []) (rest := [.ref y]) C (kX1_rowsInAll l D cy (j := j) (ja := ja) (jb := jb) (jr := jr) (jk := jk) (jc := jc) (jg := jg) (js := js) hx_1) mX1_rowsInAll u_320 u_321 u_322 1 rfl rfl 6 [1] [0, 2, 3, 4, 5] rfl (by decide +kernel) rfl rfl rfl rfl (Nat.le_of_ble_eq_true rfl) (Nat.le_of_ble_eq_true rfl) (Nat.le_of_ble_eq_true rfl) (Nat.le_of_ble_eq_true rfl) (Nat.le_of_ble_eq_true rfl) dd_X2_measure_0.2.2.1 rfl (fun _ _ hp => hp.2) (fun v_2 hp_4 => ?_)
  obtain ⟨rfl, -⟩ := hp_4
  refine xr_st (st' := [.int x_1, .ref y]) rfl ?_
  refine xr_put (n := 8) C 0 rfl rfl 0 (by decide) in_X2 tyX2 tyX2_ok nmX2 u_205 rfl rfl rfl rfl (Nat.le_of_ble_eq_true rfl) [[(y, .inr (4, [.int x_1, .int y1, .int y2, .int y3, .int y4, .int y5, .int y6, .int y7, .int y8, .int y9]))], [(j, .inr (3, [.ref ja, .ref jb, .int jr, .int jk, .int jc, .int jg, .int js]))], [(ja, .inr (6, [.ref jan]))], [(jan, .inl (cy 1, 81, .inl jaf))], [(jb, .inr (6, [.ref jbn]))], [(jbn, .inl (cy 1, 81, .inl jbf))]] rfl rfl dd_X2_measure_0.2.2.2.1 ?_
  refine xr_aload_n (n := 9) (j := 0) C dd_X2_measure_0.2.2.2.2.1 rfl rfl ?_
  refine xr_aload_n (n := 10) (j := 1) C dd_X2_measure_0.2.2.2.2.2.1 rfl rfl ?_
  obtain ⟨x_5, hx_5, hR⟩ := yf_b hR
  refine xr_callVp (n := 13) (As := []) (rest := [.ref y]) C (kX1_columnsInAll l D cy (j := j) (ja := ja) (jb := jb) (jr := jr) (jk := jk) (jc := jc) (jg := jg) (js := js) hx_5) mX1_columnsInAll u_324 u_325 u_326 1 rfl rfl 6 [1] [0, 2, 3, 4, 5] rfl (by decide +kernel) rfl rfl rfl rfl (Nat.le_of_ble_eq_true rfl) (Nat.le_of_ble_eq_true rfl) (Nat.le_of_ble_eq_true rfl) (Nat.le_of_ble_eq_true rfl) (Nat.le_of_ble_eq_true rfl) dd_X2_measure_0.2.2.2.2.2.2.1 rfl (fun _ _ hp => hp.2) (fun v_6 hp_8 => ?_)
  obtain ⟨rfl, -⟩ := hp_8
  refine xr_st (st' := [.int x_5, .ref y]) rfl ?_
  refine xr_put (n := 16) C 0 rfl rfl 1 (by decide) in_X2 tyX2 tyX2_ok nmX2 u_207 rfl rfl rfl rfl (Nat.le_of_ble_eq_true rfl) [[(y, .inr (4, [.int x_1, .int x_5, .int y2, .int y3, .int y4, .int y5, .int y6, .int y7, .int y8, .int y9]))], [(j, .inr (3, [.ref ja, .ref jb, .int jr, .int jk, .int jc, .int jg, .int js]))], [(ja, .inr (6, [.ref jan]))], [(jan, .inl (cy 1, 81, .inl jaf))], [(jb, .inr (6, [.ref jbn]))], [(jbn, .inl (cy 1, 81, .inl jbf))]] rfl rfl dd_X2_measure_0.2.2.2.2.2.2.2.1 ?_
  refine xr_aload_n (n := 17) (j := 0) C dd_X2_measure_0.2.2.2.2.2.2.2.2.1 rfl rfl ?_
  refine xr_aload_n (n := 18) (j := 1) C dd_X2_measure_0.2.2.2.2.2.2.2.2.2.1 rfl rfl ?_
  obtain ⟨x_9, hx_9, hR⟩ := yf_b hR
  refine xr_callVp (n := 21) (As := []) (rest := [.ref y]) C (kX1_countSteps l D cy (j := j) (ja := ja) (jb := jb) (jr := jr) (jk := jk) (jc := jc) (jg := jg) (js := js) (jan := jan) (jaf := jaf) (jbn := jbn) (jbf := jbf) hx_9) mX1_countSteps u_328 u_329 u_330 1 rfl rfl 6 [1, 2, 3, 4, 5] [0] rfl (by decide +kernel) rfl rfl rfl rfl (Nat.le_of_ble_eq_true rfl) (Nat.le_of_ble_eq_true rfl) (Nat.le_of_ble_eq_true rfl) (Nat.le_of_ble_eq_true rfl) (Nat.le_of_ble_eq_true rfl) dd_X2_measure_0.2.2.2.2.2.2.2.2.2.2.1 rfl (fun _ _ hp => hp.2) (fun v_10 hp_12 => ?_)
  obtain ⟨rfl, -⟩ := hp_12
  refine xr_st (st' := [.int x_9, .ref y]) rfl ?_
  refine xr_put (n := 24) C 0 rfl rfl 2 (by decide) in_X2 tyX2 tyX2_ok nmX2 u_209 rfl rfl rfl rfl (Nat.le_of_ble_eq_true rfl) [[(y, .inr (4, [.int x_1, .int x_5, .int x_9, .int y3, .int y4, .int y5, .int y6, .int y7, .int y8, .int y9]))], [(j, .inr (3, [.ref ja, .ref jb, .int jr, .int jk, .int jc, .int jg, .int js]))], [(ja, .inr (6, [.ref jan]))], [(jan, .inl (cy 1, 81, .inl jaf))], [(jb, .inr (6, [.ref jbn]))], [(jbn, .inl (cy 1, 81, .inl jbf))]] rfl rfl dd_X2_measure_0.2.2.2.2.2.2.2.2.2.2.2.1 ?_
  obtain rfl := Option.some.inj hR
  exact ret ⟨rfl, rfl⟩ (Nat.le_of_ble_eq_true rfl) (Nat.le_of_ble_eq_true rfl) dd_X2_measure_0.2.2.2.2.2.2.2.2.2.2.2.2.1
theorem dd_X2_lay_0 : dk_R cX2_lay [(0, .aload_n 0, 1), (1, .iload_n 1, 1), (2, .putfield 19, 3), (5, .aload_n 0, 1), (6, .iload_n 2, 1), (7, .putfield 22, 3), (10, .aload_n 0, 1), (11, .aload_n 0, 1), (12, .getfield 19, 3), (15, .invokestatic 52, 3), (18, .putfield 25, 3), (21, .aload_n 0, 1), (22, .aload_n 0, 1), (23, .getfield 22, 3), (26, .invokestatic 52, 3), (29, .putfield 28, 3)] := dk_use _ _ (by decide +kernel)
theorem dd_X2_lay_1 : dk_R cX2_lay [(32, .aload_n 0, 1), (33, .aload_n 0, 1), (34, .getfield 7, 3), (37, .aload_n 0, 1), (38, .getfield 25, 3), (41, .invokestatic 58, 3), (44, .putfield 31, 3), (47, .aload_n 0, 1), (48, .aload_n 0, 1), (49, .getfield 13, 3), (52, .aload_n 0, 1), (53, .getfield 28, 3), (56, .invokestatic 58, 3), (59, .putfield 34, 3), (62, .aload_n 0, 1), (63, .aload_n 0, 1)] := dk_use _ _ (by decide +kernel)
theorem dd_X2_lay_2 : dk_R cX2_lay [(64, .invokevirtual 62, 3), (67, .aload_n 0, 1), (68, .invokevirtual 65, 3), (71, .aload_n 0, 1), (72, .getfield 16, 3), (75, .iconst 1, 1), (76, .isub, 1), (77, .imul, 1), (78, .iadd, 1), (79, .putfield 37, 3), (82, .return_, 1)] := dk_use _ _ (by decide +kernel)
def fX2_lay (y0 : Int32) (y1 : Int32) (y2 : Int32) (i1 : Int32) (i2 : Int32) : Option (Int32 × Int32 × Int32 × Int32 × Int32 × Int32 × Int32) := ((fJ6_bitCount_0f7a4 i1).bind fun x_1 => ((fJ6_bitCount_0f7a4 i2).bind fun x_5 => ((fX2_countPieces y0 x_1).bind fun x_9 => ((fX2_countPieces y1 x_5).bind fun x_13 => ((fX2_countEdges y0 y1 x_9 x_13).bind fun x_17 => ((fX2_countTiles x_9 x_13).bind fun x_21 => some (i1, i2, x_1, x_5, x_9, x_13, x_17 + (x_21 * (y2 - 1)))))))))
abbrev hX2_lay : Cond := .code yX2_lay cX2_lay 3 none
theorem mX2_lay : yM yX2_lay hX2_lay 2 := ⟨u_357, u_63, by decide +kernel, by decide +kernel, by decide +kernel⟩
set_option maxHeartbeats 4000000 in
set_option maxRecDepth 100000 in
theorem kX2_lay (l : Launch) (D : va_G) (cy : Nat → ClassId) (y : Nat) (y0 : Int32) (y1 : Int32) (y2 : Int32) (y3 : Int32) (y4 : Int32) (y5 : Int32) (y6 : Int32) (y7 : Int32) (y8 : Int32) (y9 : Int32) (i1 : Int32) (i2 : Int32) {res : Int32 × Int32 × Int32 × Int32 × Int32 × Int32 × Int32} (hR : fX2_lay y0 y1 y2 i1 i2 = some res) : YM l D cy yX2_lay hX2_lay 2 0 0 [.ref y, .int i1, .int i2] [[(y, .inr (4, [.int y0, .int y1, .int y2, .int y3, .int y4, .int y5, .int y6, .int y7, .int y8, .int y9]))]] (fun v u => v = none ∧ u = [[(y, .inr (4, [.int y0, .int y1, .int y2, .int res.1, .int res.2.1, .int res.2.2.1, .int res.2.2.2.1, .int res.2.2.2.2.1, .int res.2.2.2.2.2.1, .int res.2.2.2.2.2.2]))]]) := by
  unfold fX2_lay at hR
  refine YM.ofV (cc := cX2_lay) (maxL := 3) (ret := none) (by decide +kernel) rfl (Nat.le_of_ble_eq_true rfl) [(0, .ref y), (1, .int i1), (2, .int i2)] rfl rfl (fun p e s m args below meth c A H0 Q C hnm ret => ?_)
  refine xr_aload_n (n := 1) (j := 0) C dd_X2_lay_0.1 rfl rfl ?_
  refine xr_iload_n (n := 2) (j := 1) C dd_X2_lay_0.2.1 rfl rfl ?_
  refine xr_put (n := 5) C 0 rfl rfl 3 (by decide) in_X2 tyX2 tyX2_ok nmX2 u_212 rfl rfl rfl rfl (Nat.le_of_ble_eq_true rfl) [[(y, .inr (4, [.int y0, .int y1, .int y2, .int i1, .int y4, .int y5, .int y6, .int y7, .int y8, .int y9]))]] rfl rfl dd_X2_lay_0.2.2.1 ?_
  refine xr_aload_n (n := 6) (j := 0) C dd_X2_lay_0.2.2.2.1 rfl rfl ?_
  refine xr_iload_n (n := 7) (j := 2) C dd_X2_lay_0.2.2.2.2.1 rfl rfl ?_
  refine xr_put (n := 10) C 0 rfl rfl 4 (by decide) in_X2 tyX2 tyX2_ok nmX2 u_215 rfl rfl rfl rfl (Nat.le_of_ble_eq_true rfl) [[(y, .inr (4, [.int y0, .int y1, .int y2, .int i1, .int i2, .int y5, .int y6, .int y7, .int y8, .int y9]))]] rfl rfl dd_X2_lay_0.2.2.2.2.2.1 ?_
  refine xr_aload_n (n := 11) (j := 0) C dd_X2_lay_0.2.2.2.2.2.2.1 rfl rfl ?_
  refine xr_aload_n (n := 12) (j := 0) C dd_X2_lay_0.2.2.2.2.2.2.2.1 rfl rfl ?_
  refine xr_get (n := 15) C 0 rfl rfl 3 (by decide) in_X2 u_212 rfl (v := .int i1) rfl dd_X2_lay_0.2.2.2.2.2.2.2.2.1 rfl ?_
  obtain ⟨x_1, hx_1, hR⟩ := yf_b hR
  refine xr_callSp (n := 18) (As := [.int i1]) (rest := [.ref y]) C (kJ6_bitCount_0f7a4 l D cy (i1 := i1) hx_1) mJ6_bitCount_0f7a4 u_358 u_349 1 [] [0] rfl (by decide +kernel) rfl rfl rfl rfl (Nat.le_of_ble_eq_true rfl) (Nat.le_of_ble_eq_true rfl) (Nat.le_of_ble_eq_true rfl) (Nat.le_of_ble_eq_true rfl) (Nat.le_of_ble_eq_true rfl) dd_X2_lay_0.2.2.2.2.2.2.2.2.2.1 rfl (fun _ _ hp => hp.2) (fun v_2 hp_4 => ?_)
  obtain ⟨rfl, -⟩ := hp_4
  refine xr_st (st' := [.int x_1, .ref y]) rfl ?_
  refine xr_put (n := 21) C 0 rfl rfl 5 (by decide) in_X2 tyX2 tyX2_ok nmX2 u_218 rfl rfl rfl rfl (Nat.le_of_ble_eq_true rfl) [[(y, .inr (4, [.int y0, .int y1, .int y2, .int i1, .int i2, .int x_1, .int y6, .int y7, .int y8, .int y9]))]] rfl rfl dd_X2_lay_0.2.2.2.2.2.2.2.2.2.2.1 ?_
  refine xr_aload_n (n := 22) (j := 0) C dd_X2_lay_0.2.2.2.2.2.2.2.2.2.2.2.1 rfl rfl ?_
  refine xr_aload_n (n := 23) (j := 0) C dd_X2_lay_0.2.2.2.2.2.2.2.2.2.2.2.2.1 rfl rfl ?_
  refine xr_get (n := 26) C 0 rfl rfl 4 (by decide) in_X2 u_215 rfl (v := .int i2) rfl dd_X2_lay_0.2.2.2.2.2.2.2.2.2.2.2.2.2.1 rfl ?_
  obtain ⟨x_5, hx_5, hR⟩ := yf_b hR
  refine xr_callSp (n := 29) (As := [.int i2]) (rest := [.ref y]) C (kJ6_bitCount_0f7a4 l D cy (i1 := i2) hx_5) mJ6_bitCount_0f7a4 u_358 u_349 1 [] [0] rfl (by decide +kernel) rfl rfl rfl rfl (Nat.le_of_ble_eq_true rfl) (Nat.le_of_ble_eq_true rfl) (Nat.le_of_ble_eq_true rfl) (Nat.le_of_ble_eq_true rfl) (Nat.le_of_ble_eq_true rfl) dd_X2_lay_0.2.2.2.2.2.2.2.2.2.2.2.2.2.2.1 rfl (fun _ _ hp => hp.2) (fun v_6 hp_8 => ?_)
  obtain ⟨rfl, -⟩ := hp_8
  refine xr_st (st' := [.int x_5, .ref y]) rfl ?_
  refine xr_put (n := 32) C 0 rfl rfl 6 (by decide) in_X2 tyX2 tyX2_ok nmX2 u_220 rfl rfl rfl rfl (Nat.le_of_ble_eq_true rfl) [[(y, .inr (4, [.int y0, .int y1, .int y2, .int i1, .int i2, .int x_1, .int x_5, .int y7, .int y8, .int y9]))]] rfl rfl dd_X2_lay_0.2.2.2.2.2.2.2.2.2.2.2.2.2.2.2.1 ?_
  refine xr_aload_n (n := 33) (j := 0) C dd_X2_lay_1.1 rfl rfl ?_
  refine xr_aload_n (n := 34) (j := 0) C dd_X2_lay_1.2.1 rfl rfl ?_
  refine xr_get (n := 37) C 0 rfl rfl 0 (by decide) in_X2 u_205 rfl (v := .int y0) rfl dd_X2_lay_1.2.2.1 rfl ?_
  refine xr_aload_n (n := 38) (j := 0) C dd_X2_lay_1.2.2.2.1 rfl rfl ?_
  refine xr_get (n := 41) C 0 rfl rfl 5 (by decide) in_X2 u_218 rfl (v := .int x_1) rfl dd_X2_lay_1.2.2.2.2.1 rfl ?_
  obtain ⟨x_9, hx_9, hR⟩ := yf_b hR
  refine xr_callSp (n := 44) (As := [.int y0, .int x_1]) (rest := [.ref y]) C (kX2_countPieces l D cy (i1 := y0) (i2 := x_1) hx_9) mX2_countPieces u_359 u_360 1 [] [0] rfl (by decide +kernel) rfl rfl rfl rfl (Nat.le_of_ble_eq_true rfl) (Nat.le_of_ble_eq_true rfl) (Nat.le_of_ble_eq_true rfl) (Nat.le_of_ble_eq_true rfl) (Nat.le_of_ble_eq_true rfl) dd_X2_lay_1.2.2.2.2.2.1 rfl (fun _ _ hp => hp.2) (fun v_10 hp_12 => ?_)
  obtain ⟨rfl, -⟩ := hp_12
  refine xr_st (st' := [.int x_9, .ref y]) rfl ?_
  refine xr_put (n := 47) C 0 rfl rfl 7 (by decide) in_X2 tyX2 tyX2_ok nmX2 u_222 rfl rfl rfl rfl (Nat.le_of_ble_eq_true rfl) [[(y, .inr (4, [.int y0, .int y1, .int y2, .int i1, .int i2, .int x_1, .int x_5, .int x_9, .int y8, .int y9]))]] rfl rfl dd_X2_lay_1.2.2.2.2.2.2.1 ?_
  refine xr_aload_n (n := 48) (j := 0) C dd_X2_lay_1.2.2.2.2.2.2.2.1 rfl rfl ?_
  refine xr_aload_n (n := 49) (j := 0) C dd_X2_lay_1.2.2.2.2.2.2.2.2.1 rfl rfl ?_
  refine xr_get (n := 52) C 0 rfl rfl 1 (by decide) in_X2 u_207 rfl (v := .int y1) rfl dd_X2_lay_1.2.2.2.2.2.2.2.2.2.1 rfl ?_
  refine xr_aload_n (n := 53) (j := 0) C dd_X2_lay_1.2.2.2.2.2.2.2.2.2.2.1 rfl rfl ?_
  refine xr_get (n := 56) C 0 rfl rfl 6 (by decide) in_X2 u_220 rfl (v := .int x_5) rfl dd_X2_lay_1.2.2.2.2.2.2.2.2.2.2.2.1 rfl ?_
  obtain ⟨x_13, hx_13, hR⟩ := yf_b hR
  refine xr_callSp (n := 59) (As := [.int y1, .int x_5]) (rest := [.ref y]) C (kX2_countPieces l D cy (i1 := y1) (i2 := x_5) hx_13) mX2_countPieces u_359 u_360 1 [] [0] rfl (by decide +kernel) rfl rfl rfl rfl (Nat.le_of_ble_eq_true rfl) (Nat.le_of_ble_eq_true rfl) (Nat.le_of_ble_eq_true rfl) (Nat.le_of_ble_eq_true rfl) (Nat.le_of_ble_eq_true rfl) dd_X2_lay_1.2.2.2.2.2.2.2.2.2.2.2.2.1 rfl (fun _ _ hp => hp.2) (fun v_14 hp_16 => ?_)
  obtain ⟨rfl, -⟩ := hp_16
  refine xr_st (st' := [.int x_13, .ref y]) rfl ?_
  refine xr_put (n := 62) C 0 rfl rfl 8 (by decide) in_X2 tyX2 tyX2_ok nmX2 u_223 rfl rfl rfl rfl (Nat.le_of_ble_eq_true rfl) [[(y, .inr (4, [.int y0, .int y1, .int y2, .int i1, .int i2, .int x_1, .int x_5, .int x_9, .int x_13, .int y9]))]] rfl rfl dd_X2_lay_1.2.2.2.2.2.2.2.2.2.2.2.2.2.1 ?_
  refine xr_aload_n (n := 63) (j := 0) C dd_X2_lay_1.2.2.2.2.2.2.2.2.2.2.2.2.2.2.1 rfl rfl ?_
  refine xr_aload_n (n := 64) (j := 0) C dd_X2_lay_1.2.2.2.2.2.2.2.2.2.2.2.2.2.2.2.1 rfl rfl ?_
  obtain ⟨x_17, hx_17, hR⟩ := yf_b hR
  refine xr_callVp (n := 67) (As := []) (rest := [.ref y]) C (kX2_countEdges l D cy (y := y) (y0 := y0) (y1 := y1) (y2 := y2) (y3 := i1) (y4 := i2) (y5 := x_1) (y6 := x_5) (y7 := x_9) (y8 := x_13) (y9 := y9) hx_17) mX2_countEdges u_362 u_364 u_3 0 rfl rfl 1 [0] [] rfl (by decide +kernel) rfl rfl rfl rfl (Nat.le_of_ble_eq_true rfl) (Nat.le_of_ble_eq_true rfl) (Nat.le_of_ble_eq_true rfl) (Nat.le_of_ble_eq_true rfl) (Nat.le_of_ble_eq_true rfl) dd_X2_lay_2.1 rfl (fun _ _ hp => hp.2) (fun v_18 hp_20 => ?_)
  obtain ⟨rfl, -⟩ := hp_20
  refine xr_st (st' := [.int x_17, .ref y]) rfl ?_
  refine xr_aload_n (n := 68) (j := 0) C dd_X2_lay_2.2.1 rfl rfl ?_
  obtain ⟨x_21, hx_21, hR⟩ := yf_b hR
  refine xr_callVp (n := 71) (As := []) (rest := [.int x_17, .ref y]) C (kX2_countTiles l D cy (y := y) (y0 := y0) (y1 := y1) (y2 := y2) (y3 := i1) (y4 := i2) (y5 := x_1) (y6 := x_5) (y7 := x_9) (y8 := x_13) (y9 := y9) hx_21) mX2_countTiles u_366 u_367 u_368 0 rfl rfl 1 [0] [] rfl (by decide +kernel) rfl rfl rfl rfl (Nat.le_of_ble_eq_true rfl) (Nat.le_of_ble_eq_true rfl) (Nat.le_of_ble_eq_true rfl) (Nat.le_of_ble_eq_true rfl) (Nat.le_of_ble_eq_true rfl) dd_X2_lay_2.2.2.1 rfl (fun _ _ hp => hp.2) (fun v_22 hp_24 => ?_)
  obtain ⟨rfl, -⟩ := hp_24
  refine xr_st (st' := [.int x_21, .int x_17, .ref y]) rfl ?_
  refine xr_aload_n (n := 72) (j := 0) C dd_X2_lay_2.2.2.2.1 rfl rfl ?_
  refine xr_get (n := 75) C 0 rfl rfl 2 (by decide) in_X2 u_209 rfl (v := .int y2) rfl dd_X2_lay_2.2.2.2.2.1 rfl ?_
  refine xr_iconst (n := 76) (v := 1) C dd_X2_lay_2.2.2.2.2.2.1 rfl rfl ?_
  refine xr_isub (n := 77) C dd_X2_lay_2.2.2.2.2.2.2.1 rfl ?_
  refine xr_imul (n := 78) C dd_X2_lay_2.2.2.2.2.2.2.2.1 rfl ?_
  refine xr_iadd (n := 79) C dd_X2_lay_2.2.2.2.2.2.2.2.2.1 rfl ?_
  refine xr_put (n := 82) C 0 rfl rfl 9 (by decide) in_X2 tyX2 tyX2_ok nmX2 u_224 rfl rfl rfl rfl (Nat.le_of_ble_eq_true rfl) [[(y, .inr (4, [.int y0, .int y1, .int y2, .int i1, .int i2, .int x_1, .int x_5, .int x_9, .int x_13, .int (x_17 + (x_21 * (y2 - 1)))]))]] rfl rfl dd_X2_lay_2.2.2.2.2.2.2.2.2.2.1 ?_
  obtain rfl := Option.some.inj hR
  exact ret ⟨rfl, rfl⟩ (Nat.le_of_ble_eq_true rfl) (Nat.le_of_ble_eq_true rfl) dd_X2_lay_2.2.2.2.2.2.2.2.2.2.2.1
theorem dd_X2_copyFrom_0 : dk_R cX2_copyFrom [(0, .aload_n 0, 1), (1, .aload_n 1, 1), (2, .getfield 7, 3), (5, .putfield 7, 3), (8, .aload_n 0, 1), (9, .aload_n 1, 1), (10, .getfield 13, 3), (13, .putfield 13, 3), (16, .aload_n 0, 1), (17, .aload_n 1, 1), (18, .getfield 16, 3), (21, .putfield 16, 3), (24, .aload_n 0, 1), (25, .aload_n 1, 1), (26, .getfield 19, 3), (29, .aload_n 1, 1)] := dk_use _ _ (by decide +kernel)
theorem dd_X2_copyFrom_1 : dk_R cX2_copyFrom [(30, .getfield 22, 3), (33, .invokevirtual 68, 3), (36, .return_, 1)] := dk_use _ _ (by decide +kernel)
def fX2_copyFrom (t0 : Int32) (t1 : Int32) (t2 : Int32) (t3 : Int32) (t4 : Int32) : Option (Int32 × Int32 × Int32 × Int32 × Int32 × Int32 × Int32 × Int32 × Int32 × Int32) := ((fX2_lay t0 t1 t2 t3 t4).bind fun x_1 => some (t0, t1, t2, x_1.1, x_1.2.1, x_1.2.2.1, x_1.2.2.2.1, x_1.2.2.2.2.1, x_1.2.2.2.2.2.1, x_1.2.2.2.2.2.2))
abbrev hX2_copyFrom : Cond := .code yX2_copyFrom cX2_copyFrom 2 none
theorem mX2_copyFrom : yM yX2_copyFrom hX2_copyFrom 1 := ⟨u_774, u_63, by decide +kernel, by decide +kernel, by decide +kernel⟩
set_option maxHeartbeats 4000000 in
set_option maxRecDepth 100000 in
theorem kX2_copyFrom (l : Launch) (D : va_G) (cy : Nat → ClassId) (y : Nat) (y0 : Int32) (y1 : Int32) (y2 : Int32) (y3 : Int32) (y4 : Int32) (y5 : Int32) (y6 : Int32) (y7 : Int32) (y8 : Int32) (y9 : Int32) (t : Nat) (t0 : Int32) (t1 : Int32) (t2 : Int32) (t3 : Int32) (t4 : Int32) (t5 : Int32) (t6 : Int32) (t7 : Int32) (t8 : Int32) (t9 : Int32) {res : Int32 × Int32 × Int32 × Int32 × Int32 × Int32 × Int32 × Int32 × Int32 × Int32} (hR : fX2_copyFrom t0 t1 t2 t3 t4 = some res) : YM l D cy yX2_copyFrom hX2_copyFrom 3 0 0 [.ref y, .ref t] [[(y, .inr (4, [.int y0, .int y1, .int y2, .int y3, .int y4, .int y5, .int y6, .int y7, .int y8, .int y9]))], [(t, .inr (4, [.int t0, .int t1, .int t2, .int t3, .int t4, .int t5, .int t6, .int t7, .int t8, .int t9]))]] (fun v u => v = none ∧ u = [[(y, .inr (4, [.int res.1, .int res.2.1, .int res.2.2.1, .int res.2.2.2.1, .int res.2.2.2.2.1, .int res.2.2.2.2.2.1, .int res.2.2.2.2.2.2.1, .int res.2.2.2.2.2.2.2.1, .int res.2.2.2.2.2.2.2.2.1, .int res.2.2.2.2.2.2.2.2.2]))], [(t, .inr (4, [.int t0, .int t1, .int t2, .int t3, .int t4, .int t5, .int t6, .int t7, .int t8, .int t9]))]]) := by
  unfold fX2_copyFrom at hR
  refine YM.ofV (cc := cX2_copyFrom) (maxL := 2) (ret := none) (by decide +kernel) rfl (Nat.le_of_ble_eq_true rfl) [(0, .ref y), (1, .ref t)] rfl rfl (fun p e s m args below meth c A H0 Q C hnm ret => ?_)
  refine xr_aload_n (n := 1) (j := 0) C dd_X2_copyFrom_0.1 rfl rfl ?_
  refine xr_aload_n (n := 2) (j := 1) C dd_X2_copyFrom_0.2.1 rfl rfl ?_
  refine xr_get (n := 5) C 1 rfl rfl 0 (by decide) in_X2 u_205 rfl (v := .int t0) rfl dd_X2_copyFrom_0.2.2.1 rfl ?_
  refine xr_put (n := 8) C 0 rfl rfl 0 (by decide) in_X2 tyX2 tyX2_ok nmX2 u_205 rfl rfl rfl rfl (Nat.le_of_ble_eq_true rfl) [[(y, .inr (4, [.int t0, .int y1, .int y2, .int y3, .int y4, .int y5, .int y6, .int y7, .int y8, .int y9]))], [(t, .inr (4, [.int t0, .int t1, .int t2, .int t3, .int t4, .int t5, .int t6, .int t7, .int t8, .int t9]))]] rfl rfl dd_X2_copyFrom_0.2.2.2.1 ?_
  refine xr_aload_n (n := 9) (j := 0) C dd_X2_copyFrom_0.2.2.2.2.1 rfl rfl ?_
  refine xr_aload_n (n := 10) (j := 1) C dd_X2_copyFrom_0.2.2.2.2.2.1 rfl rfl ?_
  refine xr_get (n := 13) C 1 rfl rfl 1 (by decide) in_X2 u_207 rfl (v := .int t1) rfl dd_X2_copyFrom_0.2.2.2.2.2.2.1 rfl ?_
  refine xr_put (n := 16) C 0 rfl rfl 1 (by decide) in_X2 tyX2 tyX2_ok nmX2 u_207 rfl rfl rfl rfl (Nat.le_of_ble_eq_true rfl) [[(y, .inr (4, [.int t0, .int t1, .int y2, .int y3, .int y4, .int y5, .int y6, .int y7, .int y8, .int y9]))], [(t, .inr (4, [.int t0, .int t1, .int t2, .int t3, .int t4, .int t5, .int t6, .int t7, .int t8, .int t9]))]] rfl rfl dd_X2_copyFrom_0.2.2.2.2.2.2.2.1 ?_
  refine xr_aload_n (n := 17) (j := 0) C dd_X2_copyFrom_0.2.2.2.2.2.2.2.2.1 rfl rfl ?_
  refine xr_aload_n (n := 18) (j := 1) C dd_X2_copyFrom_0.2.2.2.2.2.2.2.2.2.1 rfl rfl ?_
  refine xr_get (n := 21) C 1 rfl rfl 2 (by decide) in_X2 u_209 rfl (v := .int t2) rfl dd_X2_copyFrom_0.2.2.2.2.2.2.2.2.2.2.1 rfl ?_
  refine xr_put (n := 24) C 0 rfl rfl 2 (by decide) in_X2 tyX2 tyX2_ok nmX2 u_209 rfl rfl rfl rfl (Nat.le_of_ble_eq_true rfl) [[(y, .inr (4, [.int t0, .int t1, .int t2, .int y3, .int y4, .int y5, .int y6, .int y7, .int y8, .int y9]))], [(t, .inr (4, [.int t0, .int t1, .int t2, .int t3, .int t4, .int t5, .int t6, .int t7, .int t8, .int t9]))]] rfl rfl dd_X2_copyFrom_0.2.2.2.2.2.2.2.2.2.2.2.1 ?_
  refine xr_aload_n (n := 25) (j := 0) C dd_X2_copyFrom_0.2.2.2.2.2.2.2.2.2.2.2.2.1 rfl rfl ?_
  refine xr_aload_n (n := 26) (j := 1) C dd_X2_copyFrom_0.2.2.2.2.2.2.2.2.2.2.2.2.2.1 rfl rfl ?_
  refine xr_get (n := 29) C 1 rfl rfl 3 (by decide) in_X2 u_212 rfl (v := .int t3) rfl dd_X2_copyFrom_0.2.2.2.2.2.2.2.2.2.2.2.2.2.2.1 rfl ?_
  refine xr_aload_n (n := 30) (j := 1) C dd_X2_copyFrom_0.2.2.2.2.2.2.2.2.2.2.2.2.2.2.2.1 rfl rfl ?_
  refine xr_get (n := 33) C 1 rfl rfl 4 (by decide) in_X2 u_215 rfl (v := .int t4) rfl dd_X2_copyFrom_1.1 rfl ?_
  obtain ⟨x_1, hx_1, hR⟩ := yf_b hR
  refine xr_callV (n := 36) (As := [.int t3, .int t4]) (rest := []) C (kX2_lay l D cy (y := y) (y0 := t0) (y1 := t1) (y2 := t2) (y3 := y3) (y4 := y4) (y5 := y5) (y6 := y6) (y7 := y7) (y8 := y8) (y9 := y9) (i1 := t3) (i2 := t4) hx_1) mX2_lay u_775 u_355 u_356 0 rfl rfl 2 [0] [1] rfl (by decide +kernel) rfl rfl rfl rfl (Nat.le_of_ble_eq_true rfl) (Nat.le_of_ble_eq_true rfl) (Nat.le_of_ble_eq_true rfl) (Nat.le_of_ble_eq_true rfl) (Nat.le_of_ble_eq_true rfl) dd_X2_copyFrom_1.2.1 rfl (fun v_2 u_3 hp_4 => ?_)
  obtain ⟨rfl, rfl⟩ := hp_4
  refine xr_perm C 2 [0, 1] [] [[(y, .inr (4, [.int t0, .int t1, .int t2, .int x_1.1, .int x_1.2.1, .int x_1.2.2.1, .int x_1.2.2.2.1, .int x_1.2.2.2.2.1, .int x_1.2.2.2.2.2.1, .int x_1.2.2.2.2.2.2]))], [(t, .inr (4, [.int t0, .int t1, .int t2, .int t3, .int t4, .int t5, .int t6, .int t7, .int t8, .int t9]))]] rfl (by decide +kernel) rfl ?_
  obtain rfl := Option.some.inj hR
  exact ret ⟨rfl, rfl⟩ (Nat.le_of_ble_eq_true rfl) (Nat.le_of_ble_eq_true rfl) dd_X2_copyFrom_1.2.2.1
