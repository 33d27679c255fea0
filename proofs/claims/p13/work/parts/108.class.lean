theorem u_255 : Cond.fieldLink RX5 38 "Pulsemesh$Work" "beatOfTile" "I" ∈ yU := yu_tables_1_1 199 (by decide +kernel) (by decide +kernel)
theorem u_248 : Cond.fieldLink RX5 12 "Pulsemesh$Work" "job" "LPulsemesh$Job;" ∈ yU := yu_tables_1_1 192 (by decide +kernel) (by decide +kernel)
theorem u_781 : Cond.methodLink RX5 77 yX1_firstSum ∈ yU := yu_tables_1_4 5 (by decide +kernel) (by decide +kernel)
theorem u_782 : Cond.methodLink RX5 80 yX4_fill ∈ yU := yu_tables_1_4 6 (by decide +kernel) (by decide +kernel)
theorem u_780 : Cond.code yX5_openTile cX5_openTile 2 none ∈ yU := yu_tables_1_4 4 (by decide +kernel) (by decide +kernel)
theorem u_763 : Cond.methodLink RX5 53 yX1_copyFrom ∈ yU := yu_tables_1_3 227 (by decide +kernel) (by decide +kernel)
theorem u_764 : Cond.instanceMethod yX1_copyFrom ∈ yU := yu_tables_1_3 228 (by decide +kernel) (by decide +kernel)
theorem u_765 : Cond.selects RX1 yX1_copyFrom yX1_copyFrom ∈ yU := yu_tables_1_3 229 (by decide +kernel) (by decide +kernel)
theorem u_249 : Cond.fieldLink RX5 21 "Pulsemesh$Work" "layout" "LPulsemesh$Layout;" ∈ yU := yu_tables_1_1 193 (by decide +kernel) (by decide +kernel)
theorem u_771 : Cond.methodLink RX5 57 yX2_copyFrom ∈ yU := yu_tables_1_3 235 (by decide +kernel) (by decide +kernel)
theorem u_772 : Cond.instanceMethod yX2_copyFrom ∈ yU := yu_tables_1_3 236 (by decide +kernel) (by decide +kernel)
theorem u_773 : Cond.selects RX2 yX2_copyFrom yX2_copyFrom ∈ yU := yu_tables_1_3 237 (by decide +kernel) (by decide +kernel)
theorem u_776 : Cond.methodLink RX5 60 yX1_skippedSet ∈ yU := yu_tables_1_4 0 (by decide +kernel) (by decide +kernel)
theorem u_250 : Cond.fieldLink RX5 25 "Pulsemesh$Work" "skipped" "I" ∈ yU := yu_tables_1_1 194 (by decide +kernel) (by decide +kernel)
theorem u_251 : Cond.fieldLink RX5 29 "Pulsemesh$Work" "tile" "I" ∈ yU := yu_tables_1_1 195 (by decide +kernel) (by decide +kernel)
theorem u_253 : Cond.fieldLink RX5 32 "Pulsemesh$Work" "firstRow" "I" ∈ yU := yu_tables_1_1 197 (by decide +kernel) (by decide +kernel)
theorem u_254 : Cond.fieldLink RX5 35 "Pulsemesh$Work" "firstColumn" "I" ∈ yU := yu_tables_1_1 198 (by decide +kernel) (by decide +kernel)
theorem u_260 : Cond.fieldLink RX5 47 "Pulsemesh$Work" "startsEve\x72" "I" ∈ yU := yu_tables_1_1 204 (by decide +kernel) (by decide +kernel)
theorem u_777 : Cond.methodLink RX5 67 yX5_openTile ∈ yU := yu_tables_1_4 1 (by decide +kernel) (by decide +kernel)
theorem u_779 : Cond.instanceMethod yX5_openTile ∈ yU := yu_tables_1_4 3 (by decide +kernel) (by decide +kernel)
theorem u_20 : Cond.selects RX5 yX5_openTile yX5_openTile ∈ yU := yu 20 (by decide +kernel) (by decide +kernel)
theorem u_762 : Cond.code yX5_begin cX5_begin 4 none ∈ yU := yu_tables_1_3 226 (by decide +kernel) (by decide +kernel)
theorem u_437 : Cond.methodLink RX5 92 yJ9_min_7cf53 ∈ yU := yu_tables_1_2 141 (by decide +kernel) (by decide +kernel)
theorem u_436 : Cond.code yX5_tileRows cX5_tileRows 1 (some .int) ∈ yU := yu_tables_1_2 140 (by decide +kernel) (by decide +kernel)
theorem u_443 : Cond.code yX5_tileColumns cX5_tileColumns 1 (some .int) ∈ yU := yu_tables_1_2 147 (by decide +kernel) (by decide +kernel)
theorem u_433 : Cond.methodLink RX5 104 yX5_tileRows ∈ yU := yu_tables_1_2 137 (by decide +kernel) (by decide +kernel)
theorem u_435 : Cond.instanceMethod yX5_tileRows ∈ yU := yu_tables_1_2 139 (by decide +kernel) (by decide +kernel)
theorem u_10 : Cond.selects RX5 yX5_tileRows yX5_tileRows ∈ yU := yu 10 (by decide +kernel) (by decide +kernel)
theorem u_440 : Cond.methodLink RX5 107 yX5_tileColumns ∈ yU := yu_tables_1_2 144 (by decide +kernel) (by decide +kernel)
theorem u_442 : Cond.instanceMethod yX5_tileColumns ∈ yU := yu_tables_1_2 146 (by decide +kernel) (by decide +kernel)
theorem u_11 : Cond.selects RX5 yX5_tileColumns yX5_tileColumns ∈ yU := yu 11 (by decide +kernel) (by decide +kernel)
theorem u_454 : Cond.code yX5_beatsOfTile cX5_beatsOfTile 1 (some .int) ∈ yU := yu_tables_1_2 158 (by decide +kernel) (by decide +kernel)
theorem u_804 : Cond.methodLink RX5 124 yX5_memberOf ∈ yU := yu_tables_1_4 28 (by decide +kernel) (by decide +kernel)
theorem u_805 : Cond.static yX5_memberOf ∈ yU := yu_tables_1_4 29 (by decide +kernel) (by decide +kernel)
theorem u_807 : Cond.methodLink RX5 133 yX4_get ∈ yU := yu_tables_1_4 31 (by decide +kernel) (by decide +kernel)
theorem u_808 : Cond.methodLink RX5 136 yX1_bringIn ∈ yU := yu_tables_1_4 32 (by decide +kernel) (by decide +kernel)
theorem u_809 : Cond.methodLink RX5 140 yX0_takeIn ∈ yU := yu_tables_1_4 33 (by decide +kernel) (by decide +kernel)
theorem u_810 : Cond.instanceMethod yX0_takeIn ∈ yU := yu_tables_1_4 34 (by decide +kernel) (by decide +kernel)
theorem u_811 : Cond.selects RX0 yX0_takeIn yX0_takeIn ∈ yU := yu_tables_1_4 35 (by decide +kernel) (by decide +kernel)
theorem u_803 : Cond.code yX5_feed cX5_feed 9 none ∈ yU := yu_tables_1_4 27 (by decide +kernel) (by decide +kernel)
theorem dX5_openTile_0 : decode cX5_openTile 0 = .ok (.aload_n 0, 1) := by decide +kernel
theorem dX5_openTile_1 : decode cX5_openTile 1 = .ok (.iconst 0, 1) := by decide +kernel
theorem dX5_openTile_2 : decode cX5_openTile 2 = .ok (.putfield 38, 3) := by decide +kernel
theorem dX5_openTile_5 : decode cX5_openTile 5 = .ok (.aload_n 1, 1) := by decide +kernel
theorem dX5_openTile_6 : decode cX5_openTile 6 = .ok (.getfield 71, 3) := by decide +kernel
theorem dX5_openTile_9 : decode cX5_openTile 9 = .ok (.aload_n 0, 1) := by decide +kernel
theorem dX5_openTile_10 : decode cX5_openTile 10 = .ok (.getfield 12, 3) := by decide +kernel
theorem dX5_openTile_13 : decode cX5_openTile 13 = .ok (.invokevirtual 77, 3) := by decide +kernel
theorem dX5_openTile_16 : decode cX5_openTile 16 = .ok (.invokevirtual 80, 3) := by decide +kernel
theorem dX5_openTile_19 : decode cX5_openTile 19 = .ok (.return_, 1) := by decide +kernel
def fX5_openTile (ojg : Int32) (wmf : Nat → Int32) : Option (Int32 × (Nat → Int32)) := ((fX1_firstSum ojg).bind fun x_1 => ((fX4_fill wmf x_1).bind fun x_5 => some (0, x_5)))
abbrev hX5_openTile : Cond := .code yX5_openTile cX5_openTile 2 none
theorem mX5_openTile : yM yX5_openTile hX5_openTile 1 := ⟨u_780, u_62, by decide +kernel, by decide +kernel, by decide +kernel⟩
set_option maxHeartbeats 4000000 in
set_option maxRecDepth 100000 in
theorem kX5_openTile (l : Launch) (D : va_G) (cy : Nat → ClassId) (o : Nat) (oj : Nat) (oy : Nat) (osk : Int32) (oti : Int32) (ofr : Int32) (ofc : Int32) (obt : Int32) (obl : Int32) (obe : Int32) (ose : Int32) (otk : Int32) (oja : Nat) (ojb : Nat) (ojr : Int32) (ojk : Int32) (ojc : Int32) (ojg : Int32) (ojs : Int32) (w : Nat) (wu : Nat) (wm : Nat) (wb : Int32) (wk : Int32) (wmn : Nat) (wmf : Nat → Int32) {res : Int32 × (Nat → Int32)} (hR : fX5_openTile ojg wmf = some res) : YM l D cy yX5_openTile hX5_openTile 2 0 0 [.ref o, .ref w] [[(o, .inr (7, [.ref oj, .ref oy, .int osk, .int oti, .int ofr, .int ofc, .int obt, .int obl, .int obe, .int ose, .int otk]))], [(oj, .inr (3, [.ref oja, .ref ojb, .int ojr, .int ojk, .int ojc, .int ojg, .int ojs]))], [(w, .inr (2, [.ref wu, .ref wm, .int wb, .int wk]))], [(wm, .inr (6, [.ref wmn]))], [(wmn, .inl (cy 1, 81, .inl wmf))]] (fun v u => v = none ∧ u = [[(o, .inr (7, [.ref oj, .ref oy, .int osk, .int oti, .int ofr, .int ofc, .int res.1, .int obl, .int obe, .int ose, .int otk]))], [(oj, .inr (3, [.ref oja, .ref ojb, .int ojr, .int ojk, .int ojc, .int ojg, .int ojs]))], [(w, .inr (2, [.ref wu, .ref wm, .int wb, .int wk]))], [(wm, .inr (6, [.ref wmn]))], [(wmn, .inl (cy 1, 81, .inl res.2))]]) := by
  unfold fX5_openTile at hR
  refine YM.ofV (cc := cX5_openTile) (maxL := 2) (ret := none) (by decide +kernel) rfl (Nat.le_of_ble_eq_true rfl) [(0, .ref o), (1, .ref w)] rfl rfl (fun p e s m args below meth c A H0 Q C hnm ret => ?_)
  refine xr_aload_n (n := 1) (j := 0) C dX5_openTile_0 rfl rfl ?_
  refine xr_iconst (n := 2) (v := 0) C dX5_openTile_1 rfl rfl ?_
  refine xr_put (n := 5) C 0 rfl rfl 6 (by decide) in_X5 tyX5 tyX5_ok nmX5 u_255 rfl rfl rfl rfl (Nat.le_of_ble_eq_true rfl) [[(o, .inr (7, [.ref oj, .ref oy, .int osk, .int oti, .int ofr, .int ofc, .int 0, .int obl, .int obe, .int ose, .int otk]))], [(oj, .inr (3, [.ref oja, .ref ojb, .int ojr, .int ojk, .int ojc, .int ojg, .int ojs]))], [(w, .inr (2, [.ref wu, .ref wm, .int wb, .int wk]))], [(wm, .inr (6, [.ref wmn]))], [(wmn, .inl (cy 1, 81, .inl wmf))]] rfl rfl dX5_openTile_2 ?_
  refine xr_aload_n (n := 6) (j := 1) C dX5_openTile_5 rfl rfl ?_
  refine xr_getN (n := 9) C 2 rfl rfl 1 (by decide) in_X0 RX6 (List.mem_of_getElem? (i := 13) rfl) rfl (v := .ref wm) rfl dX5_openTile_6 rfl ?_
  refine xr_aload_n (n := 10) (j := 0) C dX5_openTile_9 rfl rfl ?_
  refine xr_get (n := 13) C 0 rfl rfl 0 (by decide) in_X5 u_248 rfl (v := .ref oj) rfl dX5_openTile_10 rfl ?_
  obtain ⟨x_1, hx_1, hR⟩ := yf_b hR
  refine xr_callVp (n := 16) (As := []) (rest := [.ref wm]) C (kX1_firstSum l D cy (j := oj) (ja := oja) (jb := ojb) (jr := ojr) (jk := ojk) (jc := ojc) (jg := ojg) (js := ojs) hx_1) mX1_firstSum u_781 u_525 u_526 1 rfl rfl 5 [1] [0, 2, 3, 4] rfl (by decide +kernel) rfl rfl rfl rfl (Nat.le_of_ble_eq_true rfl) (Nat.le_of_ble_eq_true rfl) (Nat.le_of_ble_eq_true rfl) (Nat.le_of_ble_eq_true rfl) (Nat.le_of_ble_eq_true rfl) dX5_openTile_13 rfl (fun _ _ hp => hp.2) (fun v_2 hp_4 => ?_)
  obtain ⟨rfl, -⟩ := hp_4
  refine xr_st (st' := [.int x_1, .ref wm]) rfl ?_
  obtain ⟨x_5, hx_5, hR⟩ := yf_b hR
  refine xr_callV (n := 19) (As := [.int x_1]) (rest := []) C (kX4_fill l D cy (h := wm) (hn := wmn) (hf := wmf) (num := x_1) hx_5) mX4_fill u_782 u_648 u_649 3 rfl rfl 5 [3, 4] [0, 1, 2] rfl (by decide +kernel) rfl rfl rfl rfl (Nat.le_of_ble_eq_true rfl) (Nat.le_of_ble_eq_true rfl) (Nat.le_of_ble_eq_true rfl) (Nat.le_of_ble_eq_true rfl) (Nat.le_of_ble_eq_true rfl) dX5_openTile_16 rfl (fun v_6 u_7 hp_8 => ?_)
  obtain ⟨rfl, rfl⟩ := hp_8
  refine xr_perm C 5 [2, 3, 4, 0, 1] [] [[(o, .inr (7, [.ref oj, .ref oy, .int osk, .int oti, .int ofr, .int ofc, .int 0, .int obl, .int obe, .int ose, .int otk]))], [(oj, .inr (3, [.ref oja, .ref ojb, .int ojr, .int ojk, .int ojc, .int ojg, .int ojs]))], [(w, .inr (2, [.ref wu, .ref wm, .int wb, .int wk]))], [(wm, .inr (6, [.ref wmn]))], [(wmn, .inl (cy 1, 81, .inl x_5))]] rfl (by decide +kernel) rfl ?_
  obtain rfl := Option.some.inj hR
  exact ret ⟨rfl, rfl⟩ (Nat.le_of_ble_eq_true rfl) (Nat.le_of_ble_eq_true rfl) dX5_openTile_19
theorem dX5_begin_0 : decode cX5_begin 0 = .ok (.aload_n 0, 1) := by decide +kernel
theorem dX5_begin_1 : decode cX5_begin 1 = .ok (.getfield 12, 3) := by decide +kernel
theorem dX5_begin_4 : decode cX5_begin 4 = .ok (.aload_n 1, 1) := by decide +kernel
theorem dX5_begin_5 : decode cX5_begin 5 = .ok (.invokevirtual 53, 3) := by decide +kernel
theorem dX5_begin_8 : decode cX5_begin 8 = .ok (.aload_n 0, 1) := by decide +kernel
theorem dX5_begin_9 : decode cX5_begin 9 = .ok (.getfield 21, 3) := by decide +kernel
theorem dX5_begin_12 : decode cX5_begin 12 = .ok (.aload_n 2, 1) := by decide +kernel
theorem dX5_begin_13 : decode cX5_begin 13 = .ok (.invokevirtual 57, 3) := by decide +kernel
theorem dX5_begin_16 : decode cX5_begin 16 = .ok (.aload_n 0, 1) := by decide +kernel
theorem dX5_begin_17 : decode cX5_begin 17 = .ok (.aload_n 0, 1) := by decide +kernel
theorem dX5_begin_18 : decode cX5_begin 18 = .ok (.getfield 12, 3) := by decide +kernel
theorem dX5_begin_21 : decode cX5_begin 21 = .ok (.invokevirtual 60, 3) := by decide +kernel
theorem dX5_begin_24 : decode cX5_begin 24 = .ok (.putfield 25, 3) := by decide +kernel
theorem dX5_begin_27 : decode cX5_begin 27 = .ok (.aload_n 0, 1) := by decide +kernel
theorem dX5_begin_28 : decode cX5_begin 28 = .ok (.iconst 0, 1) := by decide +kernel
theorem dX5_begin_29 : decode cX5_begin 29 = .ok (.putfield 29, 3) := by decide +kernel
theorem dX5_begin_32 : decode cX5_begin 32 = .ok (.aload_n 0, 1) := by decide +kernel
theorem dX5_begin_33 : decode cX5_begin 33 = .ok (.iconst 0, 1) := by decide +kernel
theorem dX5_begin_34 : decode cX5_begin 34 = .ok (.putfield 32, 3) := by decide +kernel
theorem dX5_begin_37 : decode cX5_begin 37 = .ok (.aload_n 0, 1) := by decide +kernel
theorem dX5_begin_38 : decode cX5_begin 38 = .ok (.iconst 0, 1) := by decide +kernel
theorem dX5_begin_39 : decode cX5_begin 39 = .ok (.putfield 35, 3) := by decide +kernel
theorem dX5_begin_42 : decode cX5_begin 42 = .ok (.aload_n 0, 1) := by decide +kernel
theorem dX5_begin_43 : decode cX5_begin 43 = .ok (.aload_n 0, 1) := by decide +kernel
theorem dX5_begin_44 : decode cX5_begin 44 = .ok (.getfield 21, 3) := by decide +kernel
theorem dX5_begin_47 : decode cX5_begin 47 = .ok (.getfield 64, 3) := by decide +kernel
theorem dX5_begin_50 : decode cX5_begin 50 = .ok (.putfield 41, 3) := by decide +kernel
theorem dX5_begin_53 : decode cX5_begin 53 = .ok (.aload_n 0, 1) := by decide +kernel
theorem dX5_begin_54 : decode cX5_begin 54 = .ok (.dup, 1) := by decide +kernel
theorem dX5_begin_55 : decode cX5_begin 55 = .ok (.getfield 47, 3) := by decide +kernel
theorem dX5_begin_58 : decode cX5_begin 58 = .ok (.iconst 1, 1) := by decide +kernel
theorem dX5_begin_59 : decode cX5_begin 59 = .ok (.iadd, 1) := by decide +kernel
theorem dX5_begin_60 : decode cX5_begin 60 = .ok (.putfield 47, 3) := by decide +kernel
theorem dX5_begin_63 : decode cX5_begin 63 = .ok (.aload_n 0, 1) := by decide +kernel
theorem dX5_begin_64 : decode cX5_begin 64 = .ok (.aload_n 3, 1) := by decide +kernel
theorem dX5_begin_65 : decode cX5_begin 65 = .ok (.invokevirtual 67, 3) := by decide +kernel
theorem dX5_begin_68 : decode cX5_begin 68 = .ok (.return_, 1) := by decide +kernel
def fX5_begin (ose : Int32) (ojaf : Nat → Int32) (ojbf : Nat → Int32) (jr : Int32) (jk : Int32) (jc : Int32) (jg : Int32) (js : Int32) (jaf : Nat → Int32) (jbf : Nat → Int32) (t0 : Int32) (t1 : Int32) (t2 : Int32) (t3 : Int32) (t4 : Int32) (wmf : Nat → Int32) : Option (Int32 × Int32 × Int32 × Int32 × Int32 × Int32 × Int32 × Int32 × Int32 × Int32 × Int32 × Int32 × (Nat → Int32) × (Nat → Int32) × Int32 × Int32 × Int32 × Int32 × Int32 × Int32 × Int32 × Int32 × Int32 × Int32 × (Nat → Int32)) := ((fX1_copyFrom ojaf ojbf jr jk jc jg js jaf jbf).bind fun x_1 => ((fX2_copyFrom t0 t1 t2 t3 t4).bind fun x_5 => ((fX1_skippedSet x_1.1 x_1.2.1 x_1.2.2.1 x_1.2.2.2.1 x_1.2.2.2.2.2.1 x_1.2.2.2.2.2.2).bind fun x_9 => ((fX5_openTile x_1.2.2.2.1 wmf).bind fun x_13 => some (x_9, 0, 0, 0, x_13.1, x_5.2.2.2.2.2.2.2.2.2, ose + 1, x_1.1, x_1.2.1, x_1.2.2.1, x_1.2.2.2.1, x_1.2.2.2.2.1, x_1.2.2.2.2.2.1, x_1.2.2.2.2.2.2, x_5.1, x_5.2.1, x_5.2.2.1, x_5.2.2.2.1, x_5.2.2.2.2.1, x_5.2.2.2.2.2.1, x_5.2.2.2.2.2.2.1, x_5.2.2.2.2.2.2.2.1, x_5.2.2.2.2.2.2.2.2.1, x_5.2.2.2.2.2.2.2.2.2, x_13.2)))))
abbrev hX5_begin : Cond := .code yX5_begin cX5_begin 4 none
theorem mX5_begin : yM yX5_begin hX5_begin 3 := ⟨u_762, u_62, by decide +kernel, by decide +kernel, by decide +kernel⟩
set_option maxHeartbeats 4000000 in
set_option maxRecDepth 100000 in
theorem kX5_begin (l : Launch) (D : va_G) (cy : Nat → ClassId) (o : Nat) (oj : Nat) (oy : Nat) (osk : Int32) (oti : Int32) (ofr : Int32) (ofc : Int32) (obt : Int32) (obl : Int32) (obe : Int32) (ose : Int32) (otk : Int32) (oja : Nat) (ojb : Nat) (ojr : Int32) (ojk : Int32) (ojc : Int32) (ojg : Int32) (ojs : Int32) (ojan : Nat) (ojaf : Nat → Int32) (ojbn : Nat) (ojbf : Nat → Int32) (oy0 : Int32) (oy1 : Int32) (oy2 : Int32) (oy3 : Int32) (oy4 : Int32) (oy5 : Int32) (oy6 : Int32) (oy7 : Int32) (oy8 : Int32) (oy9 : Int32) (j : Nat) (ja : Nat) (jb : Nat) (jr : Int32) (jk : Int32) (jc : Int32) (jg : Int32) (js : Int32) (jan : Nat) (jaf : Nat → Int32) (jbn : Nat) (jbf : Nat → Int32) (t : Nat) (t0 : Int32) (t1 : Int32) (t2 : Int32) (t3 : Int32) (t4 : Int32) (t5 : Int32) (t6 : Int32) (t7 : Int32) (t8 : Int32) (t9 : Int32) (w : Nat) (wu : Nat) (wm : Nat) (wb : Int32) (wk : Int32) (wmn : Nat) (wmf : Nat → Int32) {res : Int32 × Int32 × Int32 × Int32 × Int32 × Int32 × Int32 × Int32 × Int32 × Int32 × Int32 × Int32 × (Nat → Int32) × (Nat → Int32) × Int32 × Int32 × Int32 × Int32 × Int32 × Int32 × Int32 × Int32 × Int32 × Int32 × (Nat → Int32)} (hR : fX5_begin ose ojaf ojbf jr jk jc jg js jaf jbf t0 t1 t2 t3 t4 wmf = some res) : YM l D cy yX5_begin hX5_begin 4 0 0 [.ref o, .ref j, .ref t, .ref w] [[(o, .inr (7, [.ref oj, .ref oy, .int osk, .int oti, .int ofr, .int ofc, .int obt, .int obl, .int obe, .int ose, .int otk]))], [(oj, .inr (3, [.ref oja, .ref ojb, .int ojr, .int ojk, .int ojc, .int ojg, .int ojs]))], [(oja, .inr (6, [.ref ojan]))], [(ojan, .inl (cy 1, 81, .inl ojaf))], [(ojb, .inr (6, [.ref ojbn]))], [(ojbn, .inl (cy 1, 81, .inl ojbf))], [(oy, .inr (4, [.int oy0, .int oy1, .int oy2, .int oy3, .int oy4, .int oy5, .int oy6, .int oy7, .int oy8, .int oy9]))], [(j, .inr (3, [.ref ja, .ref jb, .int jr, .int jk, .int jc, .int jg, .int js]))], [(ja, .inr (6, [.ref jan]))], [(jan, .inl (cy 1, 81, .inl jaf))], [(jb, .inr (6, [.ref jbn]))], [(jbn, .inl (cy 1, 81, .inl jbf))], [(t, .inr (4, [.int t0, .int t1, .int t2, .int t3, .int t4, .int t5, .int t6, .int t7, .int t8, .int t9]))], [(w, .inr (2, [.ref wu, .ref wm, .int wb, .int wk]))], [(wm, .inr (6, [.ref wmn]))], [(wmn, .inl (cy 1, 81, .inl wmf))]] (fun v u => v = none ∧ u = [[(o, .inr (7, [.ref oj, .ref oy, .int res.1, .int res.2.1, .int res.2.2.1, .int res.2.2.2.1, .int res.2.2.2.2.1, .int res.2.2.2.2.2.1, .int obe, .int res.2.2.2.2.2.2.1, .int otk]))], [(oj, .inr (3, [.ref oja, .ref ojb, .int res.2.2.2.2.2.2.2.1, .int res.2.2.2.2.2.2.2.2.1, .int res.2.2.2.2.2.2.2.2.2.1, .int res.2.2.2.2.2.2.2.2.2.2.1, .int res.2.2.2.2.2.2.2.2.2.2.2.1]))], [(oja, .inr (6, [.ref ojan]))], [(ojan, .inl (cy 1, 81, .inl res.2.2.2.2.2.2.2.2.2.2.2.2.1))], [(ojb, .inr (6, [.ref ojbn]))], [(ojbn, .inl (cy 1, 81, .inl res.2.2.2.2.2.2.2.2.2.2.2.2.2.1))], [(oy, .inr (4, [.int res.2.2.2.2.2.2.2.2.2.2.2.2.2.2.1, .int res.2.2.2.2.2.2.2.2.2.2.2.2.2.2.2.1, .int res.2.2.2.2.2.2.2.2.2.2.2.2.2.2.2.2.1, .int res.2.2.2.2.2.2.2.2.2.2.2.2.2.2.2.2.2.1, .int res.2.2.2.2.2.2.2.2.2.2.2.2.2.2.2.2.2.2.1, .int res.2.2.2.2.2.2.2.2.2.2.2.2.2.2.2.2.2.2.2.1, .int res.2.2.2.2.2.2.2.2.2.2.2.2.2.2.2.2.2.2.2.2.1, .int res.2.2.2.2.2.2.2.2.2.2.2.2.2.2.2.2.2.2.2.2.2.1, .int res.2.2.2.2.2.2.2.2.2.2.2.2.2.2.2.2.2.2.2.2.2.2.1, .int res.2.2.2.2.2.2.2.2.2.2.2.2.2.2.2.2.2.2.2.2.2.2.2.1]))], [(j, .inr (3, [.ref ja, .ref jb, .int jr, .int jk, .int jc, .int jg, .int js]))], [(ja, .inr (6, [.ref jan]))], [(jan, .inl (cy 1, 81, .inl jaf))], [(jb, .inr (6, [.ref jbn]))], [(jbn, .inl (cy 1, 81, .inl jbf))], [(t, .inr (4, [.int t0, .int t1, .int t2, .int t3, .int t4, .int t5, .int t6, .int t7, .int t8, .int t9]))], [(w, .inr (2, [.ref wu, .ref wm, .int wb, .int wk]))], [(wm, .inr (6, [.ref wmn]))], [(wmn, .inl (cy 1, 81, .inl res.2.2.2.2.2.2.2.2.2.2.2.2.2.2.2.2.2.2.2.2.2.2.2.2))]]) := by
  unfold fX5_begin at hR
  refine YM.ofV (cc := cX5_begin) (maxL := 4) (ret := none) (by decide +kernel) rfl (Nat.le_of_ble_eq_true rfl) [(0, .ref o), (1, .ref j), (2, .ref t), (3, .ref w)] rfl rfl (fun p e s m args below meth c A H0 Q C hnm ret => ?_)
  refine xr_aload_n (n := 1) (j := 0) C dX5_begin_0 rfl rfl ?_
  refine xr_get (n := 4) C 0 rfl rfl 0 (by decide) in_X5 u_248 rfl (v := .ref oj) rfl dX5_begin_1 rfl ?_
  refine xr_aload_n (n := 5) (j := 1) C dX5_begin_4 rfl rfl ?_
  obtain ⟨x_1, hx_1, hR⟩ := yf_b hR
  refine xr_callV (n := 8) (As := [.ref j]) (rest := []) C (kX1_copyFrom l D cy (j := oj) (ja := oja) (jb := ojb) (jr := ojr) (jk := ojk) (jc := ojc) (jg := ojg) (js := ojs) (jan := ojan) (jaf := ojaf) (jbn := ojbn) (jbf := ojbf) (i := j) (ia := ja) (ib := jb) (ir := jr) (ik := jk) (ic := jc) (ig := jg) (is := js) (ian := jan) (iaf := jaf) (ibn := jbn) (ibf := jbf) hx_1) mX1_copyFrom u_763 u_764 u_765 1 rfl rfl 16 [1, 2, 3, 4, 5, 7, 8, 9, 10, 11] [0, 6, 12, 13, 14, 15] rfl (by decide +kernel) rfl rfl rfl rfl (Nat.le_of_ble_eq_true rfl) (Nat.le_of_ble_eq_true rfl) (Nat.le_of_ble_eq_true rfl) (Nat.le_of_ble_eq_true rfl) (Nat.le_of_ble_eq_true rfl) dX5_begin_5 rfl (fun v_2 u_3 hp_4 => ?_)
  obtain ⟨rfl, rfl⟩ := hp_4
  refine xr_perm C 16 [10, 0, 1, 2, 3, 4, 11, 5, 6, 7, 8, 9, 12, 13, 14, 15] [] [[(o, .inr (7, [.ref oj, .ref oy, .int osk, .int oti, .int ofr, .int ofc, .int obt, .int obl, .int obe, .int ose, .int otk]))], [(oj, .inr (3, [.ref oja, .ref ojb, .int x_1.1, .int x_1.2.1, .int x_1.2.2.1, .int x_1.2.2.2.1, .int x_1.2.2.2.2.1]))], [(oja, .inr (6, [.ref ojan]))], [(ojan, .inl (cy 1, 81, .inl x_1.2.2.2.2.2.1))], [(ojb, .inr (6, [.ref ojbn]))], [(ojbn, .inl (cy 1, 81, .inl x_1.2.2.2.2.2.2))], [(oy, .inr (4, [.int oy0, .int oy1, .int oy2, .int oy3, .int oy4, .int oy5, .int oy6, .int oy7, .int oy8, .int oy9]))], [(j, .inr (3, [.ref ja, .ref jb, .int jr, .int jk, .int jc, .int jg, .int js]))], [(ja, .inr (6, [.ref jan]))], [(jan, .inl (cy 1, 81, .inl jaf))], [(jb, .inr (6, [.ref jbn]))], [(jbn, .inl (cy 1, 81, .inl jbf))], [(t, .inr (4, [.int t0, .int t1, .int t2, .int t3, .int t4, .int t5, .int t6, .int t7, .int t8, .int t9]))], [(w, .inr (2, [.ref wu, .ref wm, .int wb, .int wk]))], [(wm, .inr (6, [.ref wmn]))], [(wmn, .inl (cy 1, 81, .inl wmf))]] rfl (by decide +kernel) rfl ?_
  refine xr_aload_n (n := 9) (j := 0) C dX5_begin_8 rfl rfl ?_
  refine xr_get (n := 12) C 0 rfl rfl 1 (by decide) in_X5 u_249 rfl (v := .ref oy) rfl dX5_begin_9 rfl ?_
  refine xr_aload_n (n := 13) (j := 2) C dX5_begin_12 rfl rfl ?_
  obtain ⟨x_5, hx_5, hR⟩ := yf_b hR
  refine xr_callV (n := 16) (As := [.ref t]) (rest := []) C (kX2_copyFrom l D cy (y := oy) (y0 := oy0) (y1 := oy1) (y2 := oy2) (y3 := oy3) (y4 := oy4) (y5 := oy5) (y6 := oy6) (y7 := oy7) (y8 := oy8) (y9 := oy9) (t := t) (t0 := t0) (t1 := t1) (t2 := t2) (t3 := t3) (t4 := t4) (t5 := t5) (t6 := t6) (t7 := t7) (t8 := t8) (t9 := t9) hx_5) mX2_copyFrom u_771 u_772 u_773 6 rfl rfl 16 [6, 12] [0, 1, 2, 3, 4, 5, 7, 8, 9, 10, 11, 13, 14, 15] rfl (by decide +kernel) rfl rfl rfl rfl (Nat.le_of_ble_eq_true rfl) (Nat.le_of_ble_eq_true rfl) (Nat.le_of_ble_eq_true rfl) (Nat.le_of_ble_eq_true rfl) (Nat.le_of_ble_eq_true rfl) dX5_begin_13 rfl (fun v_6 u_7 hp_8 => ?_)
  obtain ⟨rfl, rfl⟩ := hp_8
  refine xr_perm C 16 [2, 3, 4, 5, 6, 7, 0, 8, 9, 10, 11, 12, 1, 13, 14, 15] [] [[(o, .inr (7, [.ref oj, .ref oy, .int osk, .int oti, .int ofr, .int ofc, .int obt, .int obl, .int obe, .int ose, .int otk]))], [(oj, .inr (3, [.ref oja, .ref ojb, .int x_1.1, .int x_1.2.1, .int x_1.2.2.1, .int x_1.2.2.2.1, .int x_1.2.2.2.2.1]))], [(oja, .inr (6, [.ref ojan]))], [(ojan, .inl (cy 1, 81, .inl x_1.2.2.2.2.2.1))], [(ojb, .inr (6, [.ref ojbn]))], [(ojbn, .inl (cy 1, 81, .inl x_1.2.2.2.2.2.2))], [(oy, .inr (4, [.int x_5.1, .int x_5.2.1, .int x_5.2.2.1, .int x_5.2.2.2.1, .int x_5.2.2.2.2.1, .int x_5.2.2.2.2.2.1, .int x_5.2.2.2.2.2.2.1, .int x_5.2.2.2.2.2.2.2.1, .int x_5.2.2.2.2.2.2.2.2.1, .int x_5.2.2.2.2.2.2.2.2.2]))], [(j, .inr (3, [.ref ja, .ref jb, .int jr, .int jk, .int jc, .int jg, .int js]))], [(ja, .inr (6, [.ref jan]))], [(jan, .inl (cy 1, 81, .inl jaf))], [(jb, .inr (6, [.ref jbn]))], [(jbn, .inl (cy 1, 81, .inl jbf))], [(t, .inr (4, [.int t0, .int t1, .int t2, .int t3, .int t4, .int t5, .int t6, .int t7, .int t8, .int t9]))], [(w, .inr (2, [.ref wu, .ref wm, .int wb, .int wk]))], [(wm, .inr (6, [.ref wmn]))], [(wmn, .inl (cy 1, 81, .inl wmf))]] rfl (by decide +kernel) rfl ?_
  refine xr_aload_n (n := 17) (j := 0) C dX5_begin_16 rfl rfl ?_
  refine xr_aload_n (n := 18) (j := 0) C dX5_begin_17 rfl rfl ?_
  refine xr_get (n := 21) C 0 rfl rfl 0 (by decide) in_X5 u_248 rfl (v := .ref oj) rfl dX5_begin_18 rfl ?_
  obtain ⟨x_9, hx_9, hR⟩ := yf_b hR
  refine xr_callVp (n := 24) (As := []) (rest := [.ref o]) C (kX1_skippedSet l D cy (j := oj) (ja := oja) (jb := ojb) (jr := x_1.1) (jk := x_1.2.1) (jc := x_1.2.2.1) (jg := x_1.2.2.2.1) (js := x_1.2.2.2.2.1) (jan := ojan) (jaf := x_1.2.2.2.2.2.1) (jbn := ojbn) (jbf := x_1.2.2.2.2.2.2) hx_9) mX1_skippedSet u_776 u_333 u_334 1 rfl rfl 16 [1, 2, 3, 4, 5] [0, 6, 7, 8, 9, 10, 11, 12, 13, 14, 15] rfl (by decide +kernel) rfl rfl rfl rfl (Nat.le_of_ble_eq_true rfl) (Nat.le_of_ble_eq_true rfl) (Nat.le_of_ble_eq_true rfl) (Nat.le_of_ble_eq_true rfl) (Nat.le_of_ble_eq_true rfl) dX5_begin_21 rfl (fun _ _ hp => hp.2) (fun v_10 hp_12 => ?_)
  obtain ⟨rfl, -⟩ := hp_12
  refine xr_st (st' := [.int x_9, .ref o]) rfl ?_
  refine xr_put (n := 27) C 0 rfl rfl 2 (by decide) in_X5 tyX5 tyX5_ok nmX5 u_250 rfl rfl rfl rfl (Nat.le_of_ble_eq_true rfl) [[(o, .inr (7, [.ref oj, .ref oy, .int x_9, .int oti, .int ofr, .int ofc, .int obt, .int obl, .int obe, .int ose, .int otk]))], [(oj, .inr (3, [.ref oja, .ref ojb, .int x_1.1, .int x_1.2.1, .int x_1.2.2.1, .int x_1.2.2.2.1, .int x_1.2.2.2.2.1]))], [(oja, .inr (6, [.ref ojan]))], [(ojan, .inl (cy 1, 81, .inl x_1.2.2.2.2.2.1))], [(ojb, .inr (6, [.ref ojbn]))], [(ojbn, .inl (cy 1, 81, .inl x_1.2.2.2.2.2.2))], [(oy, .inr (4, [.int x_5.1, .int x_5.2.1, .int x_5.2.2.1, .int x_5.2.2.2.1, .int x_5.2.2.2.2.1, .int x_5.2.2.2.2.2.1, .int x_5.2.2.2.2.2.2.1, .int x_5.2.2.2.2.2.2.2.1, .int x_5.2.2.2.2.2.2.2.2.1, .int x_5.2.2.2.2.2.2.2.2.2]))], [(j, .inr (3, [.ref ja, .ref jb, .int jr, .int jk, .int jc, .int jg, .int js]))], [(ja, .inr (6, [.ref jan]))], [(jan, .inl (cy 1, 81, .inl jaf))], [(jb, .inr (6, [.ref jbn]))], [(jbn, .inl (cy 1, 81, .inl jbf))], [(t, .inr (4, [.int t0, .int t1, .int t2, .int t3, .int t4, .int t5, .int t6, .int t7, .int t8, .int t9]))], [(w, .inr (2, [.ref wu, .ref wm, .int wb, .int wk]))], [(wm, .inr (6, [.ref wmn]))], [(wmn, .inl (cy 1, 81, .inl wmf))]] rfl rfl dX5_begin_24 ?_
  refine xr_aload_n (n := 28) (j := 0) C dX5_begin_27 rfl rfl ?_
  refine xr_iconst (n := 29) (v := 0) C dX5_begin_28 rfl rfl ?_
  refine xr_put (n := 32) C 0 rfl rfl 3 (by decide) in_X5 tyX5 tyX5_ok nmX5 u_251 rfl rfl rfl rfl (Nat.le_of_ble_eq_true rfl) [[(o, .inr (7, [.ref oj, .ref oy, .int x_9, .int 0, .int ofr, .int ofc, .int obt, .int obl, .int obe, .int ose, .int otk]))], [(oj, .inr (3, [.ref oja, .ref ojb, .int x_1.1, .int x_1.2.1, .int x_1.2.2.1, .int x_1.2.2.2.1, .int x_1.2.2.2.2.1]))], [(oja, .inr (6, [.ref ojan]))], [(ojan, .inl (cy 1, 81, .inl x_1.2.2.2.2.2.1))], [(ojb, .inr (6, [.ref ojbn]))], [(ojbn, .inl (cy 1, 81, .inl x_1.2.2.2.2.2.2))], [(oy, .inr (4, [.int x_5.1, .int x_5.2.1, .int x_5.2.2.1, .int x_5.2.2.2.1, .int x_5.2.2.2.2.1, .int x_5.2.2.2.2.2.1, .int x_5.2.2.2.2.2.2.1, .int x_5.2.2.2.2.2.2.2.1, .int x_5.2.2.2.2.2.2.2.2.1, .int x_5.2.2.2.2.2.2.2.2.2]))], [(j, .inr (3, [.ref ja, .ref jb, .int jr, .int jk, .int jc, .int jg, .int js]))], [(ja, .inr (6, [.ref jan]))], [(jan, .inl (cy 1, 81, .inl jaf))], [(jb, .inr (6, [.ref jbn]))], [(jbn, .inl (cy 1, 81, .inl jbf))], [(t, .inr (4, [.int t0, .int t1, .int t2, .int t3, .int t4, .int t5, .int t6, .int t7, .int t8, .int t9]))], [(w, .inr (2, [.ref wu, .ref wm, .int wb, .int wk]))], [(wm, .inr (6, [.ref wmn]))], [(wmn, .inl (cy 1, 81, .inl wmf))]] rfl rfl dX5_begin_29 ?_
  refine xr_aload_n (n := 33) (j := 0) C dX5_begin_32 rfl rfl ?_
  refine xr_iconst (n := 34) (v := 0) C dX5_begin_33 rfl rfl ?_
  refine xr_put (n := 37) C 0 rfl rfl 4 (by decide) in_X5 tyX5 tyX5_ok nmX5 u_253 rfl rfl rfl rfl (Nat.le_of_ble_eq_true rfl) [[(o, .inr (7, [.ref oj, .ref oy, .int x_9, .int 0, .int 0, .int ofc, .int obt, .int obl, .int obe, .int ose, .int otk]))], [(oj, .inr (3, [.ref oja, .ref ojb, .int x_1.1, .int x_1.2.1, .int x_1.2.2.1, .int x_1.2.2.2.1, .int x_1.2.2.2.2.1]))], [(oja, .inr (6, [.ref ojan]))], [(ojan, .inl (cy 1, 81, .inl x_1.2.2.2.2.2.1))], [(ojb, .inr (6, [.ref ojbn]))], [(ojbn, .inl (cy 1, 81, .inl x_1.2.2.2.2.2.2))], [(oy, .inr (4, [.int x_5.1, .int x_5.2.1, .int x_5.2.2.1, .int x_5.2.2.2.1, .int x_5.2.2.2.2.1, .int x_5.2.2.2.2.2.1, .int x_5.2.2.2.2.2.2.1, .int x_5.2.2.2.2.2.2.2.1, .int x_5.2.2.2.2.2.2.2.2.1, .int x_5.2.2.2.2.2.2.2.2.2]))], [(j, .inr (3, [.ref ja, .ref jb, .int jr, .int jk, .int jc, .int jg, .int js]))], [(ja, .inr (6, [.ref jan]))], [(jan, .inl (cy 1, 81, .inl jaf))], [(jb, .inr (6, [.ref jbn]))], [(jbn, .inl (cy 1, 81, .inl jbf))], [(t, .inr (4, [.int t0, .int t1, .int t2, .int t3, .int t4, .int t5, .int t6, .int t7, .int t8, .int t9]))], [(w, .inr (2, [.ref wu, .ref wm, .int wb, .int wk]))], [(wm, .inr (6, [.ref wmn]))], [(wmn, .inl (cy 1, 81, .inl wmf))]] rfl rfl dX5_begin_34 ?_
  refine xr_aload_n (n := 38) (j := 0) C dX5_begin_37 rfl rfl ?_
  refine xr_iconst (n := 39) (v := 0) C dX5_begin_38 rfl rfl ?_
  refine xr_put (n := 42) C 0 rfl rfl 5 (by decide) in_X5 tyX5 tyX5_ok nmX5 u_254 rfl rfl rfl rfl (Nat.le_of_ble_eq_true rfl) [[(o, .inr (7, [.ref oj, .ref oy, .int x_9, .int 0, .int 0, .int 0, .int obt, .int obl, .int obe, .int ose, .int otk]))], [(oj, .inr (3, [.ref oja, .ref ojb, .int x_1.1, .int x_1.2.1, .int x_1.2.2.1, .int x_1.2.2.2.1, .int x_1.2.2.2.2.1]))], [(oja, .inr (6, [.ref ojan]))], [(ojan, .inl (cy 1, 81, .inl x_1.2.2.2.2.2.1))], [(ojb, .inr (6, [.ref ojbn]))], [(ojbn, .inl (cy 1, 81, .inl x_1.2.2.2.2.2.2))], [(oy, .inr (4, [.int x_5.1, .int x_5.2.1, .int x_5.2.2.1, .int x_5.2.2.2.1, .int x_5.2.2.2.2.1, .int x_5.2.2.2.2.2.1, .int x_5.2.2.2.2.2.2.1, .int x_5.2.2.2.2.2.2.2.1, .int x_5.2.2.2.2.2.2.2.2.1, .int x_5.2.2.2.2.2.2.2.2.2]))], [(j, .inr (3, [.ref ja, .ref jb, .int jr, .int jk, .int jc, .int jg, .int js]))], [(ja, .inr (6, [.ref jan]))], [(jan, .inl (cy 1, 81, .inl jaf))], [(jb, .inr (6, [.ref jbn]))], [(jbn, .inl (cy 1, 81, .inl jbf))], [(t, .inr (4, [.int t0, .int t1, .int t2, .int t3, .int t4, .int t5, .int t6, .int t7, .int t8, .int t9]))], [(w, .inr (2, [.ref wu, .ref wm, .int wb, .int wk]))], [(wm, .inr (6, [.ref wmn]))], [(wmn, .inl (cy 1, 81, .inl wmf))]] rfl rfl dX5_begin_39 ?_
  refine xr_aload_n (n := 43) (j := 0) C dX5_begin_42 rfl rfl ?_
  refine xr_aload_n (n := 44) (j := 0) C dX5_begin_43 rfl rfl ?_
  refine xr_get (n := 47) C 0 rfl rfl 1 (by decide) in_X5 u_249 rfl (v := .ref oy) rfl dX5_begin_44 rfl ?_
  refine xr_getN (n := 50) C 6 rfl rfl 9 (by decide) in_X2 RX6 (List.mem_of_getElem? (i := 37) rfl) rfl (v := .int x_5.2.2.2.2.2.2.2.2.2) rfl dX5_begin_47 rfl ?_
  refine xr_put (n := 53) C 0 rfl rfl 7 (by decide) in_X5 tyX5 tyX5_ok nmX5 u_256 rfl rfl rfl rfl (Nat.le_of_ble_eq_true rfl) [[(o, .inr (7, [.ref oj, .ref oy, .int x_9, .int 0, .int 0, .int 0, .int obt, .int x_5.2.2.2.2.2.2.2.2.2, .int obe, .int ose, .int otk]))], [(oj, .inr (3, [.ref oja, .ref ojb, .int x_1.1, .int x_1.2.1, .int x_1.2.2.1, .int x_1.2.2.2.1, .int x_1.2.2.2.2.1]))], [(oja, .inr (6, [.ref ojan]))], [(ojan, .inl (cy 1, 81, .inl x_1.2.2.2.2.2.1))], [(ojb, .inr (6, [.ref ojbn]))], [(ojbn, .inl (cy 1, 81, .inl x_1.2.2.2.2.2.2))], [(oy, .inr (4, [.int x_5.1, .int x_5.2.1, .int x_5.2.2.1, .int x_5.2.2.2.1, .int x_5.2.2.2.2.1, .int x_5.2.2.2.2.2.1, .int x_5.2.2.2.2.2.2.1, .int x_5.2.2.2.2.2.2.2.1, .int x_5.2.2.2.2.2.2.2.2.1, .int x_5.2.2.2.2.2.2.2.2.2]))], [(j, .inr (3, [.ref ja, .ref jb, .int jr, .int jk, .int jc, .int jg, .int js]))], [(ja, .inr (6, [.ref jan]))], [(jan, .inl (cy 1, 81, .inl jaf))], [(jb, .inr (6, [.ref jbn]))], [(jbn, .inl (cy 1, 81, .inl jbf))], [(t, .inr (4, [.int t0, .int t1, .int t2, .int t3, .int t4, .int t5, .int t6, .int t7, .int t8, .int t9]))], [(w, .inr (2, [.ref wu, .ref wm, .int wb, .int wk]))], [(wm, .inr (6, [.ref wmn]))], [(wmn, .inl (cy 1, 81, .inl wmf))]] rfl rfl dX5_begin_50 ?_
  refine xr_aload_n (n := 54) (j := 0) C dX5_begin_53 rfl rfl ?_
  refine xr_dup (n := 55) C dX5_begin_54 rfl rfl ?_
  refine xr_get (n := 58) C 0 rfl rfl 9 (by decide) in_X5 u_260 rfl (v := .int ose) rfl dX5_begin_55 rfl ?_
  refine xr_iconst (n := 59) (v := 1) C dX5_begin_58 rfl rfl ?_
  refine xr_iadd (n := 60) C dX5_begin_59 rfl ?_
  refine xr_put (n := 63) C 0 rfl rfl 9 (by decide) in_X5 tyX5 tyX5_ok nmX5 u_260 rfl rfl rfl rfl (Nat.le_of_ble_eq_true rfl) [[(o, .inr (7, [.ref oj, .ref oy, .int x_9, .int 0, .int 0, .int 0, .int obt, .int x_5.2.2.2.2.2.2.2.2.2, .int obe, .int (ose + 1), .int otk]))], [(oj, .inr (3, [.ref oja, .ref ojb, .int x_1.1, .int x_1.2.1, .int x_1.2.2.1, .int x_1.2.2.2.1, .int x_1.2.2.2.2.1]))], [(oja, .inr (6, [.ref ojan]))], [(ojan, .inl (cy 1, 81, .inl x_1.2.2.2.2.2.1))], [(ojb, .inr (6, [.ref ojbn]))], [(ojbn, .inl (cy 1, 81, .inl x_1.2.2.2.2.2.2))], [(oy, .inr (4, [.int x_5.1, .int x_5.2.1, .int x_5.2.2.1, .int x_5.2.2.2.1, .int x_5.2.2.2.2.1, .int x_5.2.2.2.2.2.1, .int x_5.2.2.2.2.2.2.1, .int x_5.2.2.2.2.2.2.2.1, .int x_5.2.2.2.2.2.2.2.2.1, .int x_5.2.2.2.2.2.2.2.2.2]))], [(j, .inr (3, [.ref ja, .ref jb, .int jr, .int jk, .int jc, .int jg, .int js]))], [(ja, .inr (6, [.ref jan]))], [(jan, .inl (cy 1, 81, .inl jaf))], [(jb, .inr (6, [.ref jbn]))], [(jbn, .inl (cy 1, 81, .inl jbf))], [(t, .inr (4, [.int t0, .int t1, .int t2, .int t3, .int t4, .int t5, .int t6, .int t7, .int t8, .int t9]))], [(w, .inr (2, [.ref wu, .ref wm, .int wb, .int wk]))], [(wm, .inr (6, [.ref wmn]))], [(wmn, .inl (cy 1, 81, .inl wmf))]] rfl rfl dX5_begin_60 ?_
  refine xr_aload_n (n := 64) (j := 0) C dX5_begin_63 rfl rfl ?_
  refine xr_aload_n (n := 65) (j := 3) C dX5_begin_64 rfl rfl ?_
  obtain ⟨x_13, hx_13, hR⟩ := yf_b hR
  refine xr_callV (n := 68) (As := [.ref w]) (rest := []) C (kX5_openTile l D cy (o := o) (oj := oj) (oy := oy) (osk := x_9) (oti := 0) (ofr := 0) (ofc := 0) (obt := obt) (obl := x_5.2.2.2.2.2.2.2.2.2) (obe := obe) (ose := ose + 1) (otk := otk) (oja := oja) (ojb := ojb) (ojr := x_1.1) (ojk := x_1.2.1) (ojc := x_1.2.2.1) (ojg := x_1.2.2.2.1) (ojs := x_1.2.2.2.2.1) (w := w) (wu := wu) (wm := wm) (wb := wb) (wk := wk) (wmn := wmn) (wmf := wmf) hx_13) mX5_openTile u_777 u_779 u_20 0 rfl rfl 16 [0, 1, 13, 14, 15] [2, 3, 4, 5, 6, 7, 8, 9, 10, 11, 12] rfl (by decide +kernel) rfl rfl rfl rfl (Nat.le_of_ble_eq_true rfl) (Nat.le_of_ble_eq_true rfl) (Nat.le_of_ble_eq_true rfl) (Nat.le_of_ble_eq_true rfl) (Nat.le_of_ble_eq_true rfl) dX5_begin_65 rfl (fun v_14 u_15 hp_16 => ?_)
  obtain ⟨rfl, rfl⟩ := hp_16
  refine xr_perm C 16 [0, 1, 5, 6, 7, 8, 9, 10, 11, 12, 13, 14, 15, 2, 3, 4] [] [[(o, .inr (7, [.ref oj, .ref oy, .int x_9, .int 0, .int 0, .int 0, .int x_13.1, .int x_5.2.2.2.2.2.2.2.2.2, .int obe, .int (ose + 1), .int otk]))], [(oj, .inr (3, [.ref oja, .ref ojb, .int x_1.1, .int x_1.2.1, .int x_1.2.2.1, .int x_1.2.2.2.1, .int x_1.2.2.2.2.1]))], [(oja, .inr (6, [.ref ojan]))], [(ojan, .inl (cy 1, 81, .inl x_1.2.2.2.2.2.1))], [(ojb, .inr (6, [.ref ojbn]))], [(ojbn, .inl (cy 1, 81, .inl x_1.2.2.2.2.2.2))], [(oy, .inr (4, [.int x_5.1, .int x_5.2.1, .int x_5.2.2.1, .int x_5.2.2.2.1, .int x_5.2.2.2.2.1, .int x_5.2.2.2.2.2.1, .int x_5.2.2.2.2.2.2.1, .int x_5.2.2.2.2.2.2.2.1, .int x_5.2.2.2.2.2.2.2.2.1, .int x_5.2.2.2.2.2.2.2.2.2]))], [(j, .inr (3, [.ref ja, .ref jb, .int jr, .int jk, .int jc, .int jg, .int js]))], [(ja, .inr (6, [.ref jan]))], [(jan, .inl (cy 1, 81, .inl jaf))], [(jb, .inr (6, [.ref jbn]))], [(jbn, .inl (cy 1, 81, .inl jbf))], [(t, .inr (4, [.int t0, .int t1, .int t2, .int t3, .int t4, .int t5, .int t6, .int t7, .int t8, .int t9]))], [(w, .inr (2, [.ref wu, .ref wm, .int wb, .int wk]))], [(wm, .inr (6, [.ref wmn]))], [(wmn, .inl (cy 1, 81, .inl x_13.2))]] rfl (by decide +kernel) rfl ?_
  obtain rfl := Option.some.inj hR
  exact ret ⟨rfl, rfl⟩ (Nat.le_of_ble_eq_true rfl) (Nat.le_of_ble_eq_true rfl) dX5_begin_68
theorem dX5_tileRows_0 : decode cX5_tileRows 0 = .ok (.aload_n 0, 1) := by decide +kernel
theorem dX5_tileRows_1 : decode cX5_tileRows 1 = .ok (.getfield 21, 3) := by decide +kernel
theorem dX5_tileRows_4 : decode cX5_tileRows 4 = .ok (.getfield 86, 3) := by decide +kernel
theorem dX5_tileRows_7 : decode cX5_tileRows 7 = .ok (.aload_n 0, 1) := by decide +kernel
theorem dX5_tileRows_8 : decode cX5_tileRows 8 = .ok (.getfield 21, 3) := by decide +kernel
theorem dX5_tileRows_11 : decode cX5_tileRows 11 = .ok (.getfield 89, 3) := by decide +kernel
theorem dX5_tileRows_14 : decode cX5_tileRows 14 = .ok (.aload_n 0, 1) := by decide +kernel
theorem dX5_tileRows_15 : decode cX5_tileRows 15 = .ok (.getfield 32, 3) := by decide +kernel
theorem dX5_tileRows_18 : decode cX5_tileRows 18 = .ok (.isub, 1) := by decide +kernel
theorem dX5_tileRows_19 : decode cX5_tileRows 19 = .ok (.invokestatic 92, 3) := by decide +kernel
theorem dX5_tileRows_22 : decode cX5_tileRows 22 = .ok (.ireturn, 1) := by decide +kernel
def fX5_tileRows (ofr : Int32) (oy0 : Int32) (oy5 : Int32) : Option (Int32) := some (xn_min oy5 (oy0 - ofr))
abbrev hX5_tileRows : Cond := .code yX5_tileRows cX5_tileRows 1 (some .int)
theorem mX5_tileRows : yM yX5_tileRows hX5_tileRows 0 := ⟨u_436, u_62, by decide +kernel, by decide +kernel, by decide +kernel⟩
set_option maxHeartbeats 4000000 in
set_option maxRecDepth 100000 in
theorem kX5_tileRows (l : Launch) (D : va_G) (cy : Nat → ClassId) (o : Nat) (oj : Nat) (oy : Nat) (osk : Int32) (oti : Int32) (ofr : Int32) (ofc : Int32) (obt : Int32) (obl : Int32) (obe : Int32) (ose : Int32) (otk : Int32) (oy0 : Int32) (oy1 : Int32) (oy2 : Int32) (oy3 : Int32) (oy4 : Int32) (oy5 : Int32) (oy6 : Int32) (oy7 : Int32) (oy8 : Int32) (oy9 : Int32) {res : Int32} (hR : fX5_tileRows ofr oy0 oy5 = some res) : YM l D cy yX5_tileRows hX5_tileRows 1 0 0 [.ref o] [[(o, .inr (7, [.ref oj, .ref oy, .int osk, .int oti, .int ofr, .int ofc, .int obt, .int obl, .int obe, .int ose, .int otk]))], [(oy, .inr (4, [.int oy0, .int oy1, .int oy2, .int oy3, .int oy4, .int oy5, .int oy6, .int oy7, .int oy8, .int oy9]))]] (fun v u => v = some (.int res) ∧ u = [[(o, .inr (7, [.ref oj, .ref oy, .int osk, .int oti, .int ofr, .int ofc, .int obt, .int obl, .int obe, .int ose, .int otk]))], [(oy, .inr (4, [.int oy0, .int oy1, .int oy2, .int oy3, .int oy4, .int oy5, .int oy6, .int oy7, .int oy8, .int oy9]))]]) := by
  unfold fX5_tileRows at hR
  refine YM.ofI (cc := cX5_tileRows) (maxL := 1) (ret := (some .int)) (by decide +kernel) rfl (Nat.le_of_ble_eq_true rfl) [(0, .ref o)] rfl rfl (fun p e s m args below meth c A H0 Q C hnm ret => ?_)
  refine xr_aload_n (n := 1) (j := 0) C dX5_tileRows_0 rfl rfl ?_
  refine xr_get (n := 4) C 0 rfl rfl 1 (by decide) in_X5 u_249 rfl (v := .ref oy) rfl dX5_tileRows_1 rfl ?_
  refine xr_getN (n := 7) C 1 rfl rfl 5 (by decide) in_X2 RX6 (List.mem_of_getElem? (i := 35) rfl) rfl (v := .int oy5) rfl dX5_tileRows_4 rfl ?_
  refine xr_aload_n (n := 8) (j := 0) C dX5_tileRows_7 rfl rfl ?_
  refine xr_get (n := 11) C 0 rfl rfl 1 (by decide) in_X5 u_249 rfl (v := .ref oy) rfl dX5_tileRows_8 rfl ?_
  refine xr_getN (n := 14) C 1 rfl rfl 0 (by decide) in_X2 RX6 (List.mem_of_getElem? (i := 27) rfl) rfl (v := .int oy0) rfl dX5_tileRows_11 rfl ?_
  refine xr_aload_n (n := 15) (j := 0) C dX5_tileRows_14 rfl rfl ?_
  refine xr_get (n := 18) C 0 rfl rfl 4 (by decide) in_X5 u_253 rfl (v := .int ofr) rfl dX5_tileRows_15 rfl ?_
  refine xr_isub (n := 19) C dX5_tileRows_18 rfl ?_
  refine xr_mmin (n := 22) C u_437 u_438 u_74 u_439 (Nat.le_of_ble_eq_true rfl) (Nat.le_of_ble_eq_true rfl) (Nat.le_of_ble_eq_true rfl) (Nat.le_of_ble_eq_true rfl) dX5_tileRows_19 rfl ?_
  obtain rfl := Option.some.inj hR
  exact ret (xn_min oy5 (oy0 - ofr)) ⟨rfl, rfl⟩ (Nat.le_of_ble_eq_true rfl) (Nat.le_of_ble_eq_true rfl) dX5_tileRows_22
theorem dX5_tileColumns_0 : decode cX5_tileColumns 0 = .ok (.aload_n 0, 1) := by decide +kernel
theorem dX5_tileColumns_1 : decode cX5_tileColumns 1 = .ok (.getfield 21, 3) := by decide +kernel
theorem dX5_tileColumns_4 : decode cX5_tileColumns 4 = .ok (.getfield 98, 3) := by decide +kernel
theorem dX5_tileColumns_7 : decode cX5_tileColumns 7 = .ok (.aload_n 0, 1) := by decide +kernel
theorem dX5_tileColumns_8 : decode cX5_tileColumns 8 = .ok (.getfield 21, 3) := by decide +kernel
theorem dX5_tileColumns_11 : decode cX5_tileColumns 11 = .ok (.getfield 101, 3) := by decide +kernel
theorem dX5_tileColumns_14 : decode cX5_tileColumns 14 = .ok (.aload_n 0, 1) := by decide +kernel
theorem dX5_tileColumns_15 : decode cX5_tileColumns 15 = .ok (.getfield 35, 3) := by decide +kernel
theorem dX5_tileColumns_18 : decode cX5_tileColumns 18 = .ok (.isub, 1) := by decide +kernel
theorem dX5_tileColumns_19 : decode cX5_tileColumns 19 = .ok (.invokestatic 92, 3) := by decide +kernel
theorem dX5_tileColumns_22 : decode cX5_tileColumns 22 = .ok (.ireturn, 1) := by decide +kernel
def fX5_tileColumns (ofc : Int32) (oy1 : Int32) (oy6 : Int32) : Option (Int32) := some (xn_min oy6 (oy1 - ofc))
abbrev hX5_tileColumns : Cond := .code yX5_tileColumns cX5_tileColumns 1 (some .int)
theorem mX5_tileColumns : yM yX5_tileColumns hX5_tileColumns 0 := ⟨u_443, u_62, by decide +kernel, by decide +kernel, by decide +kernel⟩
set_option maxHeartbeats 4000000 in
set_option maxRecDepth 100000 in
theorem kX5_tileColumns (l : Launch) (D : va_G) (cy : Nat → ClassId) (o : Nat) (oj : Nat) (oy : Nat) (osk : Int32) (oti : Int32) (ofr : Int32) (ofc : Int32) (obt : Int32) (obl : Int32) (obe : Int32) (ose : Int32) (otk : Int32) (oy0 : Int32) (oy1 : Int32) (oy2 : Int32) (oy3 : Int32) (oy4 : Int32) (oy5 : Int32) (oy6 : Int32) (oy7 : Int32) (oy8 : Int32) (oy9 : Int32) {res : Int32} (hR : fX5_tileColumns ofc oy1 oy6 = some res) : YM l D cy yX5_tileColumns hX5_tileColumns 1 0 0 [.ref o] [[(o, .inr (7, [.ref oj, .ref oy, .int osk, .int oti, .int ofr, .int ofc, .int obt, .int obl, .int obe, .int ose, .int otk]))], [(oy, .inr (4, [.int oy0, .int oy1, .int oy2, .int oy3, .int oy4, .int oy5, .int oy6, .int oy7, .int oy8, .int oy9]))]] (fun v u => v = some (.int res) ∧ u = [[(o, .inr (7, [.ref oj, .ref oy, .int osk, .int oti, .int ofr, .int ofc, .int obt, .int obl, .int obe, .int ose, .int otk]))], [(oy, .inr (4, [.int oy0, .int oy1, .int oy2, .int oy3, .int oy4, .int oy5, .int oy6, .int oy7, .int oy8, .int oy9]))]]) := by
  unfold fX5_tileColumns at hR
  refine YM.ofI (cc := cX5_tileColumns) (maxL := 1) (ret := (some .int)) (by decide +kernel) rfl (Nat.le_of_ble_eq_true rfl) [(0, .ref o)] rfl rfl (fun p e s m args below meth c A H0 Q C hnm ret => ?_)
  refine xr_aload_n (n := 1) (j := 0) C dX5_tileColumns_0 rfl rfl ?_
  refine xr_get (n := 4) C 0 rfl rfl 1 (by decide) in_X5 u_249 rfl (v := .ref oy) rfl dX5_tileColumns_1 rfl ?_
  refine xr_getN (n := 7) C 1 rfl rfl 6 (by decide) in_X2 RX6 (List.mem_of_getElem? (i := 36) rfl) rfl (v := .int oy6) rfl dX5_tileColumns_4 rfl ?_
  refine xr_aload_n (n := 8) (j := 0) C dX5_tileColumns_7 rfl rfl ?_
  refine xr_get (n := 11) C 0 rfl rfl 1 (by decide) in_X5 u_249 rfl (v := .ref oy) rfl dX5_tileColumns_8 rfl ?_
  refine xr_getN (n := 14) C 1 rfl rfl 1 (by decide) in_X2 RX6 (List.mem_of_getElem? (i := 28) rfl) rfl (v := .int oy1) rfl dX5_tileColumns_11 rfl ?_
  refine xr_aload_n (n := 15) (j := 0) C dX5_tileColumns_14 rfl rfl ?_
  refine xr_get (n := 18) C 0 rfl rfl 5 (by decide) in_X5 u_254 rfl (v := .int ofc) rfl dX5_tileColumns_15 rfl ?_
  refine xr_isub (n := 19) C dX5_tileColumns_18 rfl ?_
  refine xr_mmin (n := 22) C u_437 u_438 u_74 u_439 (Nat.le_of_ble_eq_true rfl) (Nat.le_of_ble_eq_true rfl) (Nat.le_of_ble_eq_true rfl) (Nat.le_of_ble_eq_true rfl) dX5_tileColumns_19 rfl ?_
  obtain rfl := Option.some.inj hR
  exact ret (xn_min oy6 (oy1 - ofc)) ⟨rfl, rfl⟩ (Nat.le_of_ble_eq_true rfl) (Nat.le_of_ble_eq_true rfl) dX5_tileColumns_22
theorem dX5_beatsOfTile_0 : decode cX5_beatsOfTile 0 = .ok (.aload_n 0, 1) := by decide +kernel
theorem dX5_beatsOfTile_1 : decode cX5_beatsOfTile 1 = .ok (.invokevirtual 104, 3) := by decide +kernel
theorem dX5_beatsOfTile_4 : decode cX5_beatsOfTile 4 = .ok (.aload_n 0, 1) := by decide +kernel
theorem dX5_beatsOfTile_5 : decode cX5_beatsOfTile 5 = .ok (.invokevirtual 107, 3) := by decide +kernel
theorem dX5_beatsOfTile_8 : decode cX5_beatsOfTile 8 = .ok (.iadd, 1) := by decide +kernel
theorem dX5_beatsOfTile_9 : decode cX5_beatsOfTile 9 = .ok (.aload_n 0, 1) := by decide +kernel
theorem dX5_beatsOfTile_10 : decode cX5_beatsOfTile 10 = .ok (.getfield 21, 3) := by decide +kernel
theorem dX5_beatsOfTile_13 : decode cX5_beatsOfTile 13 = .ok (.getfield 110, 3) := by decide +kernel
theorem dX5_beatsOfTile_16 : decode cX5_beatsOfTile 16 = .ok (.iadd, 1) := by decide +kernel
theorem dX5_beatsOfTile_17 : decode cX5_beatsOfTile 17 = .ok (.iconst 1, 1) := by decide +kernel
theorem dX5_beatsOfTile_18 : decode cX5_beatsOfTile 18 = .ok (.isub, 1) := by decide +kernel
theorem dX5_beatsOfTile_19 : decode cX5_beatsOfTile 19 = .ok (.ireturn, 1) := by decide +kernel
def fX5_beatsOfTile (ofr : Int32) (ofc : Int32) (oy0 : Int32) (oy1 : Int32) (oy2 : Int32) (oy5 : Int32) (oy6 : Int32) : Option (Int32) := ((fX5_tileRows ofr oy0 oy5).bind fun x_1 => ((fX5_tileColumns ofc oy1 oy6).bind fun x_5 => some (((x_1 + x_5) + oy2) - 1)))
abbrev hX5_beatsOfTile : Cond := .code yX5_beatsOfTile cX5_beatsOfTile 1 (some .int)
theorem mX5_beatsOfTile : yM yX5_beatsOfTile hX5_beatsOfTile 0 := ⟨u_454, u_62, by decide +kernel, by decide +kernel, by decide +kernel⟩
set_option maxHeartbeats 4000000 in
set_option maxRecDepth 100000 in
theorem kX5_beatsOfTile (l : Launch) (D : va_G) (cy : Nat → ClassId) (o : Nat) (oj : Nat) (oy : Nat) (osk : Int32) (oti : Int32) (ofr : Int32) (ofc : Int32) (obt : Int32) (obl : Int32) (obe : Int32) (ose : Int32) (otk : Int32) (oy0 : Int32) (oy1 : Int32) (oy2 : Int32) (oy3 : Int32) (oy4 : Int32) (oy5 : Int32) (oy6 : Int32) (oy7 : Int32) (oy8 : Int32) (oy9 : Int32) {res : Int32} (hR : fX5_beatsOfTile ofr ofc oy0 oy1 oy2 oy5 oy6 = some res) : YM l D cy yX5_beatsOfTile hX5_beatsOfTile 2 0 0 [.ref o] [[(o, .inr (7, [.ref oj, .ref oy, .int osk, .int oti, .int ofr, .int ofc, .int obt, .int obl, .int obe, .int ose, .int otk]))], [(oy, .inr (4, [.int oy0, .int oy1, .int oy2, .int oy3, .int oy4, .int oy5, .int oy6, .int oy7, .int oy8, .int oy9]))]] (fun v u => v = some (.int res) ∧ u = [[(o, .inr (7, [.ref oj, .ref oy, .int osk, .int oti, .int ofr, .int ofc, .int obt, .int obl, .int obe, .int ose, .int otk]))], [(oy, .inr (4, [.int oy0, .int oy1, .int oy2, .int oy3, .int oy4, .int oy5, .int oy6, .int oy7, .int oy8, .int oy9]))]]) := by
  unfold fX5_beatsOfTile at hR
  refine YM.ofI (cc := cX5_beatsOfTile) (maxL := 1) (ret := (some .int)) (by decide +kernel) rfl (Nat.le_of_ble_eq_true rfl) [(0, .ref o)] rfl rfl (fun p e s m args below meth c A H0 Q C hnm ret => ?_)
  refine xr_aload_n (n := 1) (j := 0) C dX5_beatsOfTile_0 rfl rfl ?_
  obtain ⟨x_1, hx_1, hR⟩ := yf_b hR
  refine xr_callVp (n := 4) (As := []) (rest := []) C (kX5_tileRows l D cy (o := o) (oj := oj) (oy := oy) (osk := osk) (oti := oti) (ofr := ofr) (ofc := ofc) (obt := obt) (obl := obl) (obe := obe) (ose := ose) (otk := otk) (oy0 := oy0) (oy1 := oy1) (oy2 := oy2) (oy3 := oy3) (oy4 := oy4) (oy5 := oy5) (oy6 := oy6) (oy7 := oy7) (oy8 := oy8) (oy9 := oy9) hx_1) mX5_tileRows u_433 u_435 u_10 0 rfl rfl 2 [0, 1] [] rfl (by decide +kernel) rfl rfl rfl rfl (Nat.le_of_ble_eq_true rfl) (Nat.le_of_ble_eq_true rfl) (Nat.le_of_ble_eq_true rfl) (Nat.le_of_ble_eq_true rfl) (Nat.le_of_ble_eq_true rfl) dX5_beatsOfTile_1 rfl (fun _ _ hp => hp.2) (fun v_2 hp_4 => ?_)
  obtain ⟨rfl, -⟩ := hp_4
  refine xr_st (st' := [.int x_1]) rfl ?_
  refine xr_aload_n (n := 5) (j := 0) C dX5_beatsOfTile_4 rfl rfl ?_
  obtain ⟨x_5, hx_5, hR⟩ := yf_b hR
  refine xr_callVp (n := 8) (As := []) (rest := [.int x_1]) C (kX5_tileColumns l D cy (o := o) (oj := oj) (oy := oy) (osk := osk) (oti := oti) (ofr := ofr) (ofc := ofc) (obt := obt) (obl := obl) (obe := obe) (ose := ose) (otk := otk) (oy0 := oy0) (oy1 := oy1) (oy2 := oy2) (oy3 := oy3) (oy4 := oy4) (oy5 := oy5) (oy6 := oy6) (oy7 := oy7) (oy8 := oy8) (oy9 := oy9) hx_5) mX5_tileColumns u_440 u_442 u_11 0 rfl rfl 2 [0, 1] [] rfl (by decide +kernel) rfl rfl rfl rfl (Nat.le_of_ble_eq_true rfl) (Nat.le_of_ble_eq_true rfl) (Nat.le_of_ble_eq_true rfl) (Nat.le_of_ble_eq_true rfl) (Nat.le_of_ble_eq_true rfl) dX5_beatsOfTile_5 rfl (fun _ _ hp => hp.2) (fun v_6 hp_8 => ?_)
  obtain ⟨rfl, -⟩ := hp_8
  refine xr_st (st' := [.int x_5, .int x_1]) rfl ?_
  refine xr_iadd (n := 9) C dX5_beatsOfTile_8 rfl ?_
  refine xr_aload_n (n := 10) (j := 0) C dX5_beatsOfTile_9 rfl rfl ?_
  refine xr_get (n := 13) C 0 rfl rfl 1 (by decide) in_X5 u_249 rfl (v := .ref oy) rfl dX5_beatsOfTile_10 rfl ?_
  refine xr_getN (n := 16) C 1 rfl rfl 2 (by decide) in_X2 RX6 (List.mem_of_getElem? (i := 29) rfl) rfl (v := .int oy2) rfl dX5_beatsOfTile_13 rfl ?_
  refine xr_iadd (n := 17) C dX5_beatsOfTile_16 rfl ?_
  refine xr_iconst (n := 18) (v := 1) C dX5_beatsOfTile_17 rfl rfl ?_
  refine xr_isub (n := 19) C dX5_beatsOfTile_18 rfl ?_
  obtain rfl := Option.some.inj hR
  exact ret (((x_1 + x_5) + oy2) - 1) ⟨rfl, rfl⟩ (Nat.le_of_ble_eq_true rfl) (Nat.le_of_ble_eq_true rfl) dX5_beatsOfTile_19
theorem dX5_feed_0 : decode cX5_feed 0 = .ok (.aload_n 0, 1) := by decide +kernel
theorem dX5_feed_1 : decode cX5_feed 1 = .ok (.getfield 38, 3) := by decide +kernel
theorem dX5_feed_4 : decode cX5_feed 4 = .ok (.iload_n 2, 1) := by decide +kernel
theorem dX5_feed_5 : decode cX5_feed 5 = .ok (.isub, 1) := by decide +kernel
theorem dX5_feed_6 : decode cX5_feed 6 = .ok (.iload_n 3, 1) := by decide +kernel
theorem dX5_feed_7 : decode cX5_feed 7 = .ok (.isub, 1) := by decide +kernel
theorem dX5_feed_8 : decode cX5_feed 8 = .ok (.istore 4, 2) := by decide +kernel
theorem dX5_feed_10 : decode cX5_feed 10 = .ok (.iload 4, 2) := by decide +kernel
theorem dX5_feed_12 : decode cX5_feed 12 = .ok (.ifCond .lt 15, 3) := by decide +kernel
theorem dX5_feed_15 : decode cX5_feed 15 = .ok (.iload 4, 2) := by decide +kernel
theorem dX5_feed_17 : decode cX5_feed 17 = .ok (.aload_n 0, 1) := by decide +kernel
theorem dX5_feed_18 : decode cX5_feed 18 = .ok (.getfield 21, 3) := by decide +kernel
theorem dX5_feed_21 : decode cX5_feed 21 = .ok (.getfield 110, 3) := by decide +kernel
theorem dX5_feed_24 : decode cX5_feed 24 = .ok (.if_icmp .lt 4, 3) := by decide +kernel
theorem dX5_feed_27 : decode cX5_feed 27 = .ok (.return_, 1) := by decide +kernel
theorem dX5_feed_28 : decode cX5_feed 28 = .ok (.aload_n 0, 1) := by decide +kernel
theorem dX5_feed_29 : decode cX5_feed 29 = .ok (.getfield 25, 3) := by decide +kernel
theorem dX5_feed_32 : decode cX5_feed 32 = .ok (.iconst (-1), 1) := by decide +kernel
theorem dX5_feed_33 : decode cX5_feed 33 = .ok (.ixor, 1) := by decide +kernel
theorem dX5_feed_34 : decode cX5_feed 34 = .ok (.iload 4, 2) := by decide +kernel
theorem dX5_feed_36 : decode cX5_feed 36 = .ok (.invokestatic 124, 3) := by decide +kernel
theorem dX5_feed_39 : decode cX5_feed 39 = .ok (.istore 5, 2) := by decide +kernel
theorem dX5_feed_41 : decode cX5_feed 41 = .ok (.aload_n 0, 1) := by decide +kernel
theorem dX5_feed_42 : decode cX5_feed 42 = .ok (.getfield 21, 3) := by decide +kernel
theorem dX5_feed_45 : decode cX5_feed 45 = .ok (.getfield 127, 3) := by decide +kernel
theorem dX5_feed_48 : decode cX5_feed 48 = .ok (.iload_n 2, 1) := by decide +kernel
theorem dX5_feed_49 : decode cX5_feed 49 = .ok (.invokestatic 124, 3) := by decide +kernel
theorem dX5_feed_52 : decode cX5_feed 52 = .ok (.istore 6, 2) := by decide +kernel
theorem dX5_feed_54 : decode cX5_feed 54 = .ok (.aload_n 0, 1) := by decide +kernel
theorem dX5_feed_55 : decode cX5_feed 55 = .ok (.getfield 21, 3) := by decide +kernel
theorem dX5_feed_58 : decode cX5_feed 58 = .ok (.getfield 130, 3) := by decide +kernel
theorem dX5_feed_61 : decode cX5_feed 61 = .ok (.iload_n 3, 1) := by decide +kernel
theorem dX5_feed_62 : decode cX5_feed 62 = .ok (.invokestatic 124, 3) := by decide +kernel
theorem dX5_feed_65 : decode cX5_feed 65 = .ok (.istore 7, 2) := by decide +kernel
theorem dX5_feed_67 : decode cX5_feed 67 = .ok (.aload_n 1, 1) := by decide +kernel
theorem dX5_feed_68 : decode cX5_feed 68 = .ok (.getfield 71, 3) := by decide +kernel
theorem dX5_feed_71 : decode cX5_feed 71 = .ok (.iload 6, 2) := by decide +kernel
theorem dX5_feed_73 : decode cX5_feed 73 = .ok (.iload 7, 2) := by decide +kernel
theorem dX5_feed_75 : decode cX5_feed 75 = .ok (.invokevirtual 133, 3) := by decide +kernel
theorem dX5_feed_78 : decode cX5_feed 78 = .ok (.istore 8, 2) := by decide +kernel
theorem dX5_feed_80 : decode cX5_feed 80 = .ok (.aload_n 1, 1) := by decide +kernel
theorem dX5_feed_81 : decode cX5_feed 81 = .ok (.iload 6, 2) := by decide +kernel
theorem dX5_feed_83 : decode cX5_feed 83 = .ok (.iload 7, 2) := by decide +kernel
theorem dX5_feed_85 : decode cX5_feed 85 = .ok (.aload_n 0, 1) := by decide +kernel
theorem dX5_feed_86 : decode cX5_feed 86 = .ok (.getfield 12, 3) := by decide +kernel
theorem dX5_feed_89 : decode cX5_feed 89 = .ok (.iload 8, 2) := by decide +kernel
theorem dX5_feed_91 : decode cX5_feed 91 = .ok (.aload_n 0, 1) := by decide +kernel
theorem dX5_feed_92 : decode cX5_feed 92 = .ok (.getfield 32, 3) := by decide +kernel
theorem dX5_feed_95 : decode cX5_feed 95 = .ok (.iload_n 2, 1) := by decide +kernel
theorem dX5_feed_96 : decode cX5_feed 96 = .ok (.iadd, 1) := by decide +kernel
theorem dX5_feed_97 : decode cX5_feed 97 = .ok (.iload 5, 2) := by decide +kernel
theorem dX5_feed_99 : decode cX5_feed 99 = .ok (.aload_n 0, 1) := by decide +kernel
theorem dX5_feed_100 : decode cX5_feed 100 = .ok (.getfield 35, 3) := by decide +kernel
theorem dX5_feed_103 : decode cX5_feed 103 = .ok (.iload_n 3, 1) := by decide +kernel
theorem dX5_feed_104 : decode cX5_feed 104 = .ok (.iadd, 1) := by decide +kernel
theorem dX5_feed_105 : decode cX5_feed 105 = .ok (.invokevirtual 136, 3) := by decide +kernel
theorem dX5_feed_108 : decode cX5_feed 108 = .ok (.invokevirtual 140, 3) := by decide +kernel
theorem dX5_feed_111 : decode cX5_feed 111 = .ok (.return_, 1) := by decide +kernel
def fX5_feed (osk : Int32) (ofr : Int32) (ofc : Int32) (obt : Int32) (ojr : Int32) (ojc : Int32) (ojg : Int32) (ojaf : Nat → Int32) (ojbf : Nat → Int32) (oy2 : Int32) (oy3 : Int32) (oy4 : Int32) (wb : Int32) (wuf : Nat → Int32) (wmf : Nat → Int32) (i1 : Int32) (i2 : Int32) : Option ((Nat → Int32) × (Nat → Int32)) := (if ((obt - i1) - i2) < 0 then some (wuf, wmf) else (if ((obt - i1) - i2) < oy2 then ((fX5_memberOf (osk ^^^ (-1)) ((obt - i1) - i2)).bind fun x_3 => ((fX5_memberOf oy3 i1).bind fun x_7 => ((fX5_memberOf oy4 i2).bind fun x_11 => ((fX4_get wmf x_7 x_11).bind fun x_15 => ((fX1_bringIn ojr ojc ojg ojaf ojbf x_15 (ofr + i1) x_3 (ofc + i2)).bind fun x_19 => ((fX0_takeIn wb wuf wmf x_7 x_11 x_19).bind fun x_23 => some (x_23.1, x_23.2))))))) else some (wuf, wmf)))
abbrev hX5_feed : Cond := .code yX5_feed cX5_feed 9 none
theorem mX5_feed : yM yX5_feed hX5_feed 3 := ⟨u_803, u_62, by decide +kernel, by decide +kernel, by decide +kernel⟩
set_option maxHeartbeats 4000000 in
set_option maxRecDepth 100000 in
theorem kX5_feed (l : Launch) (D : va_G) (cy : Nat → ClassId) (o : Nat) (oj : Nat) (oy : Nat) (osk : Int32) (oti : Int32) (ofr : Int32) (ofc : Int32) (obt : Int32) (obl : Int32) (obe : Int32) (ose : Int32) (otk : Int32) (oja : Nat) (ojb : Nat) (ojr : Int32) (ojk : Int32) (ojc : Int32) (ojg : Int32) (ojs : Int32) (ojan : Nat) (ojaf : Nat → Int32) (ojbn : Nat) (ojbf : Nat → Int32) (oy0 : Int32) (oy1 : Int32) (oy2 : Int32) (oy3 : Int32) (oy4 : Int32) (oy5 : Int32) (oy6 : Int32) (oy7 : Int32) (oy8 : Int32) (oy9 : Int32) (w : Nat) (wu : Nat) (wm : Nat) (wb : Int32) (wk : Int32) (wun : Nat) (wuf : Nat → Int32) (wmn : Nat) (wmf : Nat → Int32) (i1 : Int32) (i2 : Int32) {res : (Nat → Int32) × (Nat → Int32)} (hR : fX5_feed osk ofr ofc obt ojr ojc ojg ojaf ojbf oy2 oy3 oy4 wb wuf wmf i1 i2 = some res) : YM l D cy yX5_feed hX5_feed 4 0 0 [.ref o, .ref w, .int i1, .int i2] [[(o, .inr (7, [.ref oj, .ref oy, .int osk, .int oti, .int ofr, .int ofc, .int obt, .int obl, .int obe, .int ose, .int otk]))], [(oj, .inr (3, [.ref oja, .ref ojb, .int ojr, .int ojk, .int ojc, .int ojg, .int ojs]))], [(oja, .inr (6, [.ref ojan]))], [(ojan, .inl (cy 1, 81, .inl ojaf))], [(ojb, .inr (6, [.ref ojbn]))], [(ojbn, .inl (cy 1, 81, .inl ojbf))], [(oy, .inr (4, [.int oy0, .int oy1, .int oy2, .int oy3, .int oy4, .int oy5, .int oy6, .int oy7, .int oy8, .int oy9]))], [(w, .inr (2, [.ref wu, .ref wm, .int wb, .int wk]))], [(wu, .inr (6, [.ref wun]))], [(wun, .inl (cy 1, 81, .inl wuf))], [(wm, .inr (6, [.ref wmn]))], [(wmn, .inl (cy 1, 81, .inl wmf))]] (fun v u => v = none ∧ u = [[(o, .inr (7, [.ref oj, .ref oy, .int osk, .int oti, .int ofr, .int ofc, .int obt, .int obl, .int obe, .int ose, .int otk]))], [(oj, .inr (3, [.ref oja, .ref ojb, .int ojr, .int ojk, .int ojc, .int ojg, .int ojs]))], [(oja, .inr (6, [.ref ojan]))], [(ojan, .inl (cy 1, 81, .inl ojaf))], [(ojb, .inr (6, [.ref ojbn]))], [(ojbn, .inl (cy 1, 81, .inl ojbf))], [(oy, .inr (4, [.int oy0, .int oy1, .int oy2, .int oy3, .int oy4, .int oy5, .int oy6, .int oy7, .int oy8, .int oy9]))], [(w, .inr (2, [.ref wu, .ref wm, .int wb, .int wk]))], [(wu, .inr (6, [.ref wun]))], [(wun, .inl (cy 1, 81, .inl res.1))], [(wm, .inr (6, [.ref wmn]))], [(wmn, .inl (cy 1, 81, .inl res.2))]]) := by
  unfold fX5_feed at hR
  refine YM.ofV (cc := cX5_feed) (maxL := 9) (ret := none) (by decide +kernel) rfl (Nat.le_of_ble_eq_true rfl) [(0, .ref o), (1, .ref w), (2, .int i1), (3, .int i2)] rfl rfl (fun p e s m args below meth c A H0 Q C hnm ret => ?_)
  refine xr_aload_n (n := 1) (j := 0) C dX5_feed_0 rfl rfl ?_
  refine xr_get (n := 4) C 0 rfl rfl 6 (by decide) in_X5 u_255 rfl (v := .int obt) rfl dX5_feed_1 rfl ?_
  refine xr_iload_n (n := 5) (j := 2) C dX5_feed_4 rfl rfl ?_
  refine xr_isub (n := 6) C dX5_feed_5 rfl ?_
  refine xr_iload_n (n := 7) (j := 3) C dX5_feed_6 rfl rfl ?_
  refine xr_isub (n := 8) C dX5_feed_7 rfl ?_
  refine xr_istore (n := 10) C [(4, .int ((obt - i1) - i2)), (0, .ref o), (1, .ref w), (2, .int i1), (3, .int i2)] dX5_feed_8 (by decide) rfl rfl ?_
  refine xr_iload (n := 12) (j := 0) C dX5_feed_10 rfl rfl ?_
  refine xr_if_lt (tgt := 27) (n := 15) C dX5_feed_12 rfl rfl (fun c_1 => ?_) (fun c_1 => ?_)
  · replace hR := yf_t c_1 hR
    obtain rfl := Option.some.inj hR
    exact ret ⟨rfl, rfl⟩ (Nat.le_of_ble_eq_true rfl) (Nat.le_of_ble_eq_true rfl) dX5_feed_27
  · replace hR := yf_f c_1 hR
    refine xr_iload (n := 17) (j := 0) C dX5_feed_15 rfl rfl ?_
    refine xr_aload_n (n := 18) (j := 1) C dX5_feed_17 rfl rfl ?_
    refine xr_get (n := 21) C 0 rfl rfl 1 (by decide) in_X5 u_249 rfl (v := .ref oy) rfl dX5_feed_18 rfl ?_
    refine xr_getN (n := 24) C 6 rfl rfl 2 (by decide) in_X2 RX6 (List.mem_of_getElem? (i := 29) rfl) rfl (v := .int oy2) rfl dX5_feed_21 rfl ?_
    refine xr_icmp_lt (tgt := 28) (n := 27) C dX5_feed_24 rfl rfl (fun c_2 => ?_) (fun c_2 => ?_)
    · replace hR := yf_t c_2 hR
      refine xr_aload_n (n := 29) (j := 1) C dX5_feed_28 rfl rfl ?_
      refine xr_get (n := 32) C 0 rfl rfl 2 (by decide) in_X5 u_250 rfl (v := .int osk) rfl dX5_feed_29 rfl ?_
      refine xr_iconst (n := 33) (v := -1) C dX5_feed_32 rfl rfl ?_
      refine xr_ixor (n := 34) C dX5_feed_33 rfl ?_
      refine xr_iload (n := 36) (j := 0) C dX5_feed_34 rfl rfl ?_
      obtain ⟨x_3, hx_3, hR⟩ := yf_b hR
      refine xr_callSp (n := 39) (As := [.int (osk ^^^ (-1)), .int ((obt - i1) - i2)]) (rest := []) C (kX5_memberOf l D cy (i1 := osk ^^^ (-1)) (i2 := (obt - i1) - i2) hx_3) mX5_memberOf u_804 u_805 12 [] [0, 1, 2, 3, 4, 5, 6, 7, 8, 9, 10, 11] rfl (by decide +kernel) rfl rfl rfl rfl (Nat.le_of_ble_eq_true rfl) (Nat.le_of_ble_eq_true rfl) (Nat.le_of_ble_eq_true rfl) (Nat.le_of_ble_eq_true rfl) (Nat.le_of_ble_eq_true rfl) dX5_feed_36 rfl (fun _ _ hp => hp.2) (fun v_4 hp_6 => ?_)
      obtain ⟨rfl, -⟩ := hp_6
      refine xr_st (st' := [.int x_3]) rfl ?_
      refine xr_istore (n := 41) C [(5, .int x_3), (4, .int ((obt - i1) - i2)), (0, .ref o), (1, .ref w), (2, .int i1), (3, .int i2)] dX5_feed_39 (by decide) rfl rfl ?_
      refine xr_aload_n (n := 42) (j := 2) C dX5_feed_41 rfl rfl ?_
      refine xr_get (n := 45) C 0 rfl rfl 1 (by decide) in_X5 u_249 rfl (v := .ref oy) rfl dX5_feed_42 rfl ?_
      refine xr_getN (n := 48) C 6 rfl rfl 3 (by decide) in_X2 RX6 (List.mem_of_getElem? (i := 31) rfl) rfl (v := .int oy3) rfl dX5_feed_45 rfl ?_
      refine xr_iload_n (n := 49) (j := 4) C dX5_feed_48 rfl rfl ?_
      obtain ⟨x_7, hx_7, hR⟩ := yf_b hR
      refine xr_callSp (n := 52) (As := [.int oy3, .int i1]) (rest := []) C (kX5_memberOf l D cy (i1 := oy3) (i2 := i1) hx_7) mX5_memberOf u_804 u_805 12 [] [0, 1, 2, 3, 4, 5, 6, 7, 8, 9, 10, 11] rfl (by decide +kernel) rfl rfl rfl rfl (Nat.le_of_ble_eq_true rfl) (Nat.le_of_ble_eq_true rfl) (Nat.le_of_ble_eq_true rfl) (Nat.le_of_ble_eq_true rfl) (Nat.le_of_ble_eq_true rfl) dX5_feed_49 rfl (fun _ _ hp => hp.2) (fun v_8 hp_10 => ?_)
      obtain ⟨rfl, -⟩ := hp_10
      refine xr_st (st' := [.int x_7]) rfl ?_
      refine xr_istore (n := 54) C [(6, .int x_7), (5, .int x_3), (4, .int ((obt - i1) - i2)), (0, .ref o), (1, .ref w), (2, .int i1), (3, .int i2)] dX5_feed_52 (by decide) rfl rfl ?_
      refine xr_aload_n (n := 55) (j := 3) C dX5_feed_54 rfl rfl ?_
      refine xr_get (n := 58) C 0 rfl rfl 1 (by decide) in_X5 u_249 rfl (v := .ref oy) rfl dX5_feed_55 rfl ?_
      refine xr_getN (n := 61) C 6 rfl rfl 4 (by decide) in_X2 RX6 (List.mem_of_getElem? (i := 33) rfl) rfl (v := .int oy4) rfl dX5_feed_58 rfl ?_
      refine xr_iload_n (n := 62) (j := 6) C dX5_feed_61 rfl rfl ?_
      obtain ⟨x_11, hx_11, hR⟩ := yf_b hR
      refine xr_callSp (n := 65) (As := [.int oy4, .int i2]) (rest := []) C (kX5_memberOf l D cy (i1 := oy4) (i2 := i2) hx_11) mX5_memberOf u_804 u_805 12 [] [0, 1, 2, 3, 4, 5, 6, 7, 8, 9, 10, 11] rfl (by decide +kernel) rfl rfl rfl rfl (Nat.le_of_ble_eq_true rfl) (Nat.le_of_ble_eq_true rfl) (Nat.le_of_ble_eq_true rfl) (Nat.le_of_ble_eq_true rfl) (Nat.le_of_ble_eq_true rfl) dX5_feed_62 rfl (fun _ _ hp => hp.2) (fun v_12 hp_14 => ?_)
      obtain ⟨rfl, -⟩ := hp_14
      refine xr_st (st' := [.int x_11]) rfl ?_
      refine xr_istore (n := 67) C [(7, .int x_11), (6, .int x_7), (5, .int x_3), (4, .int ((obt - i1) - i2)), (0, .ref o), (1, .ref w), (2, .int i1), (3, .int i2)] dX5_feed_65 (by decide) rfl rfl ?_
      refine xr_aload_n (n := 68) (j := 5) C dX5_feed_67 rfl rfl ?_
      refine xr_getN (n := 71) C 7 rfl rfl 1 (by decide) in_X0 RX6 (List.mem_of_getElem? (i := 13) rfl) rfl (v := .ref wm) rfl dX5_feed_68 rfl ?_
      refine xr_iload (n := 73) (j := 1) C dX5_feed_71 rfl rfl ?_
      refine xr_iload (n := 75) (j := 0) C dX5_feed_73 rfl rfl ?_
      obtain ⟨x_15, hx_15, hR⟩ := yf_b hR
      refine xr_callVp (n := 78) (As := [.int x_7, .int x_11]) (rest := []) C (kX4_get l D cy (h := wm) (hn := wmn) (hf := wmf) (row := x_7) (col := x_11) hx_15) mX4_get u_807 u_341 u_342 10 rfl rfl 12 [10, 11] [0, 1, 2, 3, 4, 5, 6, 7, 8, 9] rfl (by decide +kernel) rfl rfl rfl rfl (Nat.le_of_ble_eq_true rfl) (Nat.le_of_ble_eq_true rfl) (Nat.le_of_ble_eq_true rfl) (Nat.le_of_ble_eq_true rfl) (Nat.le_of_ble_eq_true rfl) dX5_feed_75 rfl (fun _ _ hp => hp.2) (fun v_16 hp_18 => ?_)
      obtain ⟨rfl, -⟩ := hp_18
      refine xr_st (st' := [.int x_15]) rfl ?_
      refine xr_istore (n := 80) C [(8, .int x_15), (7, .int x_11), (6, .int x_7), (5, .int x_3), (4, .int ((obt - i1) - i2)), (0, .ref o), (1, .ref w), (2, .int i1), (3, .int i2)] dX5_feed_78 (by decide) rfl rfl ?_
      refine xr_aload_n (n := 81) (j := 6) C dX5_feed_80 rfl rfl ?_
      refine xr_iload (n := 83) (j := 2) C dX5_feed_81 rfl rfl ?_
      refine xr_iload (n := 85) (j := 1) C dX5_feed_83 rfl rfl ?_
      refine xr_aload_n (n := 86) (j := 5) C dX5_feed_85 rfl rfl ?_
      refine xr_get (n := 89) C 0 rfl rfl 0 (by decide) in_X5 u_248 rfl (v := .ref oj) rfl dX5_feed_86 rfl ?_
      refine xr_iload (n := 91) (j := 0) C dX5_feed_89 rfl rfl ?_
      refine xr_aload_n (n := 92) (j := 5) C dX5_feed_91 rfl rfl ?_
      refine xr_get (n := 95) C 0 rfl rfl 4 (by decide) in_X5 u_253 rfl (v := .int ofr) rfl dX5_feed_92 rfl ?_
      refine xr_iload_n (n := 96) (j := 7) C dX5_feed_95 rfl rfl ?_
      refine xr_iadd (n := 97) C dX5_feed_96 rfl ?_
      refine xr_iload (n := 99) (j := 3) C dX5_feed_97 rfl rfl ?_
      refine xr_aload_n (n := 100) (j := 5) C dX5_feed_99 rfl rfl ?_
      refine xr_get (n := 103) C 0 rfl rfl 5 (by decide) in_X5 u_254 rfl (v := .int ofc) rfl dX5_feed_100 rfl ?_
      refine xr_iload_n (n := 104) (j := 8) C dX5_feed_103 rfl rfl ?_
      refine xr_iadd (n := 105) C dX5_feed_104 rfl ?_
      obtain ⟨x_19, hx_19, hR⟩ := yf_b hR
      refine xr_callVp (n := 108) (As := [.int x_15, .int (ofr + i1), .int x_3, .int (ofc + i2)]) (rest := [.int x_11, .int x_7, .ref w]) C (kX1_bringIn l D cy (j := oj) (ja := oja) (jb := ojb) (jr := ojr) (jk := ojk) (jc := ojc) (jg := ojg) (js := ojs) (jan := ojan) (jaf := ojaf) (jbn := ojbn) (jbf := ojbf) (i0 := x_15) (i1 := ofr + i1) (it := x_3) (i2 := ofc + i2) hx_19) mX1_bringIn u_808 u_529 u_530 1 rfl rfl 12 [1, 2, 3, 4, 5] [0, 6, 7, 8, 9, 10, 11] rfl (by decide +kernel) rfl rfl rfl rfl (Nat.le_of_ble_eq_true rfl) (Nat.le_of_ble_eq_true rfl) (Nat.le_of_ble_eq_true rfl) (Nat.le_of_ble_eq_true rfl) (Nat.le_of_ble_eq_true rfl) dX5_feed_105 rfl (fun _ _ hp => hp.2) (fun v_20 hp_22 => ?_)
      obtain ⟨rfl, -⟩ := hp_22
      refine xr_st (st' := [.int x_19, .int x_11, .int x_7, .ref w]) rfl ?_
      obtain ⟨x_23, hx_23, hR⟩ := yf_b hR
      refine xr_callV (n := 111) (As := [.int x_7, .int x_11, .int x_19]) (rest := []) C (kX0_takeIn l D cy (w := w) (wu := wu) (wm := wm) (wb := wb) (wk := wk) (wun := wun) (wuf := wuf) (wmn := wmn) (wmf := wmf) (i1 := x_7) (i2 := x_11) (i3 := x_19) hx_23) mX0_takeIn u_809 u_810 u_811 7 rfl rfl 12 [7, 8, 9, 10, 11] [0, 1, 2, 3, 4, 5, 6] rfl (by decide +kernel) rfl rfl rfl rfl (Nat.le_of_ble_eq_true rfl) (Nat.le_of_ble_eq_true rfl) (Nat.le_of_ble_eq_true rfl) (Nat.le_of_ble_eq_true rfl) (Nat.le_of_ble_eq_true rfl) dX5_feed_108 rfl (fun v_24 u_25 hp_26 => ?_)
      obtain ⟨rfl, rfl⟩ := hp_26
      refine xr_perm C 12 [5, 6, 7, 8, 9, 10, 11, 0, 1, 2, 3, 4] [] [[(o, .inr (7, [.ref oj, .ref oy, .int osk, .int oti, .int ofr, .int ofc, .int obt, .int obl, .int obe, .int ose, .int otk]))], [(oj, .inr (3, [.ref oja, .ref ojb, .int ojr, .int ojk, .int ojc, .int ojg, .int ojs]))], [(oja, .inr (6, [.ref ojan]))], [(ojan, .inl (cy 1, 81, .inl ojaf))], [(ojb, .inr (6, [.ref ojbn]))], [(ojbn, .inl (cy 1, 81, .inl ojbf))], [(oy, .inr (4, [.int oy0, .int oy1, .int oy2, .int oy3, .int oy4, .int oy5, .int oy6, .int oy7, .int oy8, .int oy9]))], [(w, .inr (2, [.ref wu, .ref wm, .int wb, .int wk]))], [(wu, .inr (6, [.ref wun]))], [(wun, .inl (cy 1, 81, .inl x_23.1))], [(wm, .inr (6, [.ref wmn]))], [(wmn, .inl (cy 1, 81, .inl x_23.2))]] rfl (by decide +kernel) rfl ?_
      obtain rfl := Option.some.inj hR
      exact ret ⟨rfl, rfl⟩ (Nat.le_of_ble_eq_true rfl) (Nat.le_of_ble_eq_true rfl) dX5_feed_111
    · replace hR := yf_f c_2 hR
      obtain rfl := Option.some.inj hR
      exact ret ⟨rfl, rfl⟩ (Nat.le_of_ble_eq_true rfl) (Nat.le_of_ble_eq_true rfl) dX5_feed_27
