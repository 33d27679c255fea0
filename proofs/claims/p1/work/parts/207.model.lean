theorem u_1335 : Cond.methodLink RX9 130 yX9_isNoCell ∈ yU := yu_tables_1_6 79 (by decide +kernel) (by decide +kernel)
theorem u_1336 : Cond.static yX9_isNoCell ∈ yU := yu_tables_1_6 80 (by decide +kernel) (by decide +kernel)
theorem u_1239 : Cond.fieldLink RX9 24 "PulsemeshModel" "areBroken" "[[Z" ∈ yU := yu_tables_1_5 223 (by decide +kernel) (by decide +kernel)
theorem u_1338 : Cond.methodLink RX9 133 yX9_count ∈ yU := yu_tables_1_6 82 (by decide +kernel) (by decide +kernel)
theorem u_1340 : Cond.instanceMethod yX9_count ∈ yU := yu_tables_1_6 84 (by decide +kernel) (by decide +kernel)
theorem u_31 : Cond.selects RX9 yX9_count yX9_count ∈ yU := yu 31 (by decide +kernel) (by decide +kernel)
theorem u_1334 : Cond.code yX9_broken cX9_broken 4 (some .int) ∈ yU := yu_tables_1_6 78 (by decide +kernel) (by decide +kernel)
theorem u_1247 : Cond.fieldLink RX9 146 "PulsemeshModel" "layRows" "I" ∈ yU := yu_tables_1_5 231 (by decide +kernel) (by decide +kernel)
theorem u_1433 : Cond.code yX9_h cX9_h 1 (some .int) ∈ yU := yu_tables_1_6 177 (by decide +kernel) (by decide +kernel)
theorem u_1248 : Cond.fieldLink RX9 149 "PulsemeshModel" "layColumns" "I" ∈ yU := yu_tables_1_5 232 (by decide +kernel) (by decide +kernel)
theorem u_1429 : Cond.code yX9_w cX9_w 1 (some .int) ∈ yU := yu_tables_1_6 173 (by decide +kernel) (by decide +kernel)
theorem u_1246 : Cond.fieldLink RX9 137 "PulsemeshModel" "now" "LPulsemeshModel$Work;" ∈ yU := yu_tables_1_5 230 (by decide +kernel) (by decide +kernel)
theorem u_1430 : Cond.methodLink RX9 152 yX9_h ∈ yU := yu_tables_1_6 174 (by decide +kernel) (by decide +kernel)
theorem u_1432 : Cond.instanceMethod yX9_h ∈ yU := yu_tables_1_6 176 (by decide +kernel) (by decide +kernel)
theorem u_38 : Cond.selects RX9 yX9_h yX9_h ∈ yU := yu 38 (by decide +kernel) (by decide +kernel)
theorem u_1249 : Cond.fieldLink RX9 155 "PulsemeshModel" "tile" "I" ∈ yU := yu_tables_1_5 233 (by decide +kernel) (by decide +kernel)
theorem u_1426 : Cond.methodLink RX9 158 yX9_w ∈ yU := yu_tables_1_6 170 (by decide +kernel) (by decide +kernel)
theorem u_1428 : Cond.instanceMethod yX9_w ∈ yU := yu_tables_1_6 172 (by decide +kernel) (by decide +kernel)
theorem u_37 : Cond.selects RX9 yX9_w yX9_w ∈ yU := yu 37 (by decide +kernel) (by decide +kernel)
theorem u_1446 : Cond.code yX9_tileRows cX9_tileRows 1 (some .int) ∈ yU := yu_tables_1_6 190 (by decide +kernel) (by decide +kernel)
theorem u_1450 : Cond.code yX9_tileColumns cX9_tileColumns 1 (some .int) ∈ yU := yu_tables_1_6 194 (by decide +kernel) (by decide +kernel)
theorem dd_X9_broken_0 : dk_R cX9_broken [(0, .aload_n 0, 1), (1, .iload_n 1, 1), (2, .iload_n 2, 1), (3, .invokestatic 130, 3), (6, .iconst 1, 1), (7, .invokevirtual 79, 3), (10, .ifCond .eq 5, 3), (13, .iconst 0, 1), (14, .ireturn, 1), (15, .aload_n 0, 1), (16, .getfield 24, 3), (19, .iload_n 1, 1), (20, .aaload, 1), (21, .iload_n 2, 1), (22, .iload_n 3, 1), (23, .bastore, 1)] := dk_use _ _ (by decide +kernel)
theorem dd_X9_broken_1 : dk_R cX9_broken [(24, .aload_n 0, 1), (25, .getfield 27, 3), (28, .iload_n 1, 1), (29, .aaload, 1), (30, .iload_n 2, 1), (31, .dup2, 1), (32, .baload, 1), (33, .iload_n 3, 1), (34, .iand, 1), (35, .bastore, 1), (36, .aload_n 0, 1), (37, .aload_n 0, 1), (38, .getfield 24, 3), (41, .invokevirtual 133, 3), (44, .ireturn, 1)] := dk_use _ _ (by decide +kernel)
def fX9_broken_i (gBG : Nat → Nat → Int32) (gKG : Nat → Nat → Int32) (i1 : Int32) (i2 : Int32) (isb : Int32) : Option (Int32 × Int32 × (Nat → Nat → Int32) × (Nat → Nat → Int32)) := ((fX9_isNoCell i1 i2).bind fun x_1 => ((fX9_start_i x_1 1).bind fun x_5 => (if x_5.1 = 0 then (if ¬ (i1 < 0 ∨ 5 ≤ i1.toNatClampNeg) then (if ¬ (i2 < 0 ∨ 5 ≤ i2.toNatClampNeg) then (if ¬ (i1 < 0 ∨ 5 ≤ i1.toNatClampNeg) then (if ¬ (i2 < 0 ∨ 5 ≤ i2.toNatClampNeg) then (if ¬ (i2 < 0 ∨ 5 ≤ i2.toNatClampNeg) then ((fX9_count_i 5 5 (upg gBG i1.toNatClampNeg i2.toNatClampNeg (vp_nar .boolean isb))).bind fun x_15 => some (x_15, x_5.2, upg gBG i1.toNatClampNeg i2.toNatClampNeg (vp_nar .boolean isb), upg gKG i1.toNatClampNeg i2.toNatClampNeg (vp_nar .boolean ((gKG i1.toNatClampNeg i2.toNatClampNeg) &&& isb)))) else none) else none) else none) else none) else none) else some (0, x_5.2, gBG, gKG))))
abbrev hX9_broken : Cond := .code yX9_broken cX9_broken 4 (some .int)
theorem mX9_broken : yM yX9_broken hX9_broken 3 := ⟨u_1334, u_64, by decide +kernel, by decide +kernel, by decide +kernel⟩
set_option maxHeartbeats 4000000 in
set_option maxRecDepth 100000 in
theorem kX9_broken_i (l : Launch) (D : va_G) (cy : Nat → ClassId) (g : Nat) (gth : Int32) (gw : Nat) (gB : Nat) (gK : Nat) (gU : Nat) (gS : Nat) (gbe : Int32) (gwo : Int32) (gta : Int64) (glr : Int32) (glc : Int32) (gti : Int32) (ggo : Int32) (gR : Nat) (gch : Int32) (gD : Nat) (gBd : Nat → Nat) (gBG : Nat → Nat → Int32) (gKd : Nat → Nat) (gKG : Nat → Nat → Int32) (i1 : Int32) (i2 : Int32) (isb : Int32) {res : Int32 × Int32 × (Nat → Nat → Int32) × (Nat → Nat → Int32)} (hR : fX9_broken_i gBG gKG i1 i2 isb = some res) : YM l D cy yX9_broken hX9_broken 3 0 0 [.ref g, .int i1, .int i2, .int isb] [[(g, .inr (11, [.int gth, .ref gw, .ref gB, .ref gK, .ref gU, .ref gS, .int gbe, .int gwo, .long gta, .null, .int glr, .int glc, .int gti, .int ggo, .ref gR, .int gch, .ref gD]))], [(gB, .inl (cy 4, 5, .inr (.inr (.inr (.inr (yad gBd))))))], xg_rows gBd 5 (cy 2) 5 gBG, [(gK, .inl (cy 4, 5, .inr (.inr (.inr (.inr (yad gKd))))))], xg_rows gKd 5 (cy 2) 5 gKG] (fun v u => v = some (.int res.1) ∧ u = [[(g, .inr (11, [.int res.2.1, .ref gw, .ref gB, .ref gK, .ref gU, .ref gS, .int gbe, .int gwo, .long gta, .null, .int glr, .int glc, .int gti, .int ggo, .ref gR, .int gch, .ref gD]))], [(gB, .inl (cy 4, 5, .inr (.inr (.inr (.inr (yad gBd))))))], xg_rows gBd 5 (cy 2) 5 res.2.2.1, [(gK, .inl (cy 4, 5, .inr (.inr (.inr (.inr (yad gKd))))))], xg_rows gKd 5 (cy 2) 5 res.2.2.2]) := by
  unfold fX9_broken_i at hR
  refine YM.ofI (cc := cX9_broken) (maxL := 4) (ret := (some .int)) (by decide +kernel) rfl (Nat.le_of_ble_eq_true rfl) [(0, .ref g), (1, .int i1), (2, .int i2), (3, .int isb)] rfl rfl (fun p e s m args below meth c A H0 Q C hnm ret => ?_)
  refine xr_aload_n (n := 1) (j := 0) C dd_X9_broken_0.1 rfl rfl ?_
  refine xr_iload_n (n := 2) (j := 1) C dd_X9_broken_0.2.1 rfl rfl ?_
  refine xr_iload_n (n := 3) (j := 2) C dd_X9_broken_0.2.2.1 rfl rfl ?_
  obtain ⟨x_1, hx_1, hR⟩ := yf_b hR
  refine xr_callSp (n := 6) (As := [.int i1, .int i2]) (rest := [.ref g]) C (kX9_isNoCell l D cy (i1 := i1) (i2 := i2) hx_1) mX9_isNoCell u_1335 u_1336 5 [] [0, 1, 2, 3, 4] rfl (by decide +kernel) rfl rfl rfl rfl (Nat.le_of_ble_eq_true rfl) (Nat.le_of_ble_eq_true rfl) (Nat.le_of_ble_eq_true rfl) (Nat.le_of_ble_eq_true rfl) (Nat.le_of_ble_eq_true rfl) dd_X9_broken_0.2.2.2.1 rfl (fun _ _ hp => hp.2) (fun v_2 hp_4 => ?_)
  obtain ⟨rfl, -⟩ := hp_4
  refine xr_st (st' := [.int x_1, .ref g]) rfl ?_
  refine xr_iconst (n := 7) (v := 1) C dd_X9_broken_0.2.2.2.2.1 rfl rfl ?_
  obtain ⟨x_5, hx_5, hR⟩ := yf_b hR
  refine xr_callV (n := 10) (As := [.int x_1, .int 1]) (rest := []) C (kX9_start_i l D cy (g := g) (gth := gth) (gw := gw) (gB := gB) (gK := gK) (gU := gU) (gS := gS) (gbe := gbe) (gwo := gwo) (gta := gta) (glr := glr) (glc := glc) (gti := gti) (ggo := ggo) (gR := gR) (gch := gch) (gD := gD) (i1 := x_1) (i2 := 1) hx_5) mX9_start u_1301 u_1303 u_29 0 rfl rfl 5 [0] [1, 2, 3, 4] rfl (by decide +kernel) rfl rfl rfl rfl (Nat.le_of_ble_eq_true rfl) (Nat.le_of_ble_eq_true rfl) (Nat.le_of_ble_eq_true rfl) (Nat.le_of_ble_eq_true rfl) (Nat.le_of_ble_eq_true rfl) dd_X9_broken_0.2.2.2.2.2.1 rfl (fun v_6 u_7 hp_8 => ?_)
  obtain ⟨rfl, rfl⟩ := hp_8
  refine xr_perm C 5 [0, 1, 2, 3, 4] [] [[(g, .inr (11, [.int x_5.2, .ref gw, .ref gB, .ref gK, .ref gU, .ref gS, .int gbe, .int gwo, .long gta, .null, .int glr, .int glc, .int gti, .int ggo, .ref gR, .int gch, .ref gD]))], [(gB, .inl (cy 4, 5, .inr (.inr (.inr (.inr (yad gBd))))))], xg_rows gBd 5 (cy 2) 5 gBG, [(gK, .inl (cy 4, 5, .inr (.inr (.inr (.inr (yad gKd))))))], xg_rows gKd 5 (cy 2) 5 gKG] rfl (by decide +kernel) rfl ?_
  refine xr_st (st' := [.int x_5.1]) rfl ?_
  refine xr_if_eq (tgt := 15) (n := 13) C dd_X9_broken_0.2.2.2.2.2.2.1 rfl rfl (fun c_9 => ?_) (fun c_9 => ?_)
  · replace hR := yf_t c_9 hR
    refine xr_aload_n (n := 16) (j := 0) C dd_X9_broken_0.2.2.2.2.2.2.2.2.2.1 rfl rfl ?_
    refine xr_get (n := 19) C 0 rfl rfl 2 (by decide) in_X9 u_1239 rfl (v := .ref gB) rfl dd_X9_broken_0.2.2.2.2.2.2.2.2.2.2.1 rfl ?_
    refine xr_iload_n (n := 20) (j := 1) C dd_X9_broken_0.2.2.2.2.2.2.2.2.2.2.2.1 rfl rfl ?_
    obtain ⟨g_10, hR⟩ := yf_g hR
    refine xr_aald (n := 21) C 1 0 rfl 4 rfl rfl g_10 rfl dd_X9_broken_0.2.2.2.2.2.2.2.2.2.2.2.2.1 rfl ?_
    refine xr_iload_n (n := 22) (j := 2) C dd_X9_broken_0.2.2.2.2.2.2.2.2.2.2.2.2.2.1 rfl rfl ?_
    refine xr_iload_n (n := 23) (j := 3) C dd_X9_broken_0.2.2.2.2.2.2.2.2.2.2.2.2.2.2.1 rfl rfl ?_
    obtain ⟨g_11, hR⟩ := yf_g hR
    refine xr_zastg (n := 24) C 2 rfl i1.toNatClampNeg (ylt g_10) g_11 [[(g, .inr (11, [.int x_5.2, .ref gw, .ref gB, .ref gK, .ref gU, .ref gS, .int gbe, .int gwo, .long gta, .null, .int glr, .int glc, .int gti, .int ggo, .ref gR, .int gch, .ref gD]))], [(gB, .inl (cy 4, 5, .inr (.inr (.inr (.inr (yad gBd))))))], xg_rows gBd 5 (cy 2) 5 (upg gBG i1.toNatClampNeg i2.toNatClampNeg (vp_nar .boolean isb)), [(gK, .inl (cy 4, 5, .inr (.inr (.inr (.inr (yad gKd))))))], xg_rows gKd 5 (cy 2) 5 gKG] rfl dd_X9_broken_0.2.2.2.2.2.2.2.2.2.2.2.2.2.2.2.1 rfl ?_
    refine xr_aload_n (n := 25) (j := 0) C dd_X9_broken_1.1 rfl rfl ?_
    refine xr_get (n := 28) C 0 rfl rfl 3 (by decide) in_X9 u_1240 rfl (v := .ref gK) rfl dd_X9_broken_1.2.1 rfl ?_
    refine xr_iload_n (n := 29) (j := 1) C dd_X9_broken_1.2.2.1 rfl rfl ?_
    obtain ⟨g_12, hR⟩ := yf_g hR
    refine xr_aald (n := 30) C 3 0 rfl 4 rfl rfl g_12 rfl dd_X9_broken_1.2.2.2.1 rfl ?_
    refine xr_iload_n (n := 31) (j := 2) C dd_X9_broken_1.2.2.2.2.1 rfl rfl ?_
    refine xr_dup2 (n := 32) C dd_X9_broken_1.2.2.2.2.2.1 rfl rfl rfl ?_
    obtain ⟨g_13, hR⟩ := yf_g hR
    refine xr_zaldg (n := 33) C 4 rfl i1.toNatClampNeg (ylt g_12) g_13 dd_X9_broken_1.2.2.2.2.2.2.1 rfl ?_
    refine xr_iload_n (n := 34) (j := 3) C dd_X9_broken_1.2.2.2.2.2.2.2.1 rfl rfl ?_
    refine xr_iand (n := 35) C dd_X9_broken_1.2.2.2.2.2.2.2.2.1 rfl ?_
    obtain ⟨g_14, hR⟩ := yf_g hR
    refine xr_zastg (n := 36) C 4 rfl i1.toNatClampNeg (ylt g_12) g_14 [[(g, .inr (11, [.int x_5.2, .ref gw, .ref gB, .ref gK, .ref gU, .ref gS, .int gbe, .int gwo, .long gta, .null, .int glr, .int glc, .int gti, .int ggo, .ref gR, .int gch, .ref gD]))], [(gB, .inl (cy 4, 5, .inr (.inr (.inr (.inr (yad gBd))))))], xg_rows gBd 5 (cy 2) 5 (upg gBG i1.toNatClampNeg i2.toNatClampNeg (vp_nar .boolean isb)), [(gK, .inl (cy 4, 5, .inr (.inr (.inr (.inr (yad gKd))))))], xg_rows gKd 5 (cy 2) 5 (upg gKG i1.toNatClampNeg i2.toNatClampNeg (vp_nar .boolean ((gKG i1.toNatClampNeg i2.toNatClampNeg) &&& isb)))] rfl dd_X9_broken_1.2.2.2.2.2.2.2.2.2.1 rfl ?_
    refine xr_aload_n (n := 37) (j := 0) C dd_X9_broken_1.2.2.2.2.2.2.2.2.2.2.1 rfl rfl ?_
    refine xr_aload_n (n := 38) (j := 0) C dd_X9_broken_1.2.2.2.2.2.2.2.2.2.2.2.1 rfl rfl ?_
    refine xr_get (n := 41) C 0 rfl rfl 2 (by decide) in_X9 u_1239 rfl (v := .ref gB) rfl dd_X9_broken_1.2.2.2.2.2.2.2.2.2.2.2.2.1 rfl ?_
    obtain ⟨x_15, hx_15, hR⟩ := yf_b hR
    refine xr_callVp (n := 44) (As := [.ref gB]) (rest := []) C (kX9_count_i l D cy (g := g) (gth := x_5.2) (gw := gw) (gB := gB) (gK := gK) (gU := gU) (gS := gS) (gbe := gbe) (gwo := gwo) (gta := gta) (glr := glr) (glc := glc) (gti := gti) (ggo := ggo) (gR := gR) (gch := gch) (gD := gD) (h := gB) (hd := gBd) (hn := 5) (hk := 5) (hG := upg gBG i1.toNatClampNeg i2.toNatClampNeg (vp_nar .boolean isb)) hx_15) mX9_count u_1338 u_1340 u_31 0 rfl rfl 5 [0, 1, 2] [3, 4] rfl (by decide +kernel) rfl rfl rfl rfl (Nat.le_of_ble_eq_true rfl) (Nat.le_of_ble_eq_true rfl) (Nat.le_of_ble_eq_true rfl) (Nat.le_of_ble_eq_true rfl) (Nat.le_of_ble_eq_true rfl) dd_X9_broken_1.2.2.2.2.2.2.2.2.2.2.2.2.2.1 rfl (fun _ _ hp => hp.2) (fun v_16 hp_18 => ?_)
    obtain ⟨rfl, -⟩ := hp_18
    refine xr_st (st' := [.int x_15]) rfl ?_
    obtain rfl := Option.some.inj hR
    exact ret x_15 ⟨rfl, rfl⟩ (Nat.le_of_ble_eq_true rfl) (Nat.le_of_ble_eq_true rfl) dd_X9_broken_1.2.2.2.2.2.2.2.2.2.2.2.2.2.2.1
  · replace hR := yf_f c_9 hR
    refine xr_iconst (n := 14) (v := 0) C dd_X9_broken_0.2.2.2.2.2.2.2.1 rfl rfl ?_
    obtain rfl := Option.some.inj hR
    exact ret 0 ⟨rfl, rfl⟩ (Nat.le_of_ble_eq_true rfl) (Nat.le_of_ble_eq_true rfl) dd_X9_broken_0.2.2.2.2.2.2.2.2.1
def fX9_broken_r (gBG : Nat → Nat → Int32) (gKG : Nat → Nat → Int32) (i1 : Int32) (i2 : Int32) (isb : Int32) : Option (Int32 × Int32 × (Nat → Nat → Int32) × (Nat → Nat → Int32)) := ((fX9_isNoCell i1 i2).bind fun x_1 => ((fX9_start_r x_1 1).bind fun x_5 => (if x_5.1 = 0 then (if ¬ (i1 < 0 ∨ 5 ≤ i1.toNatClampNeg) then (if ¬ (i2 < 0 ∨ 5 ≤ i2.toNatClampNeg) then (if ¬ (i1 < 0 ∨ 5 ≤ i1.toNatClampNeg) then (if ¬ (i2 < 0 ∨ 5 ≤ i2.toNatClampNeg) then (if ¬ (i2 < 0 ∨ 5 ≤ i2.toNatClampNeg) then ((fX9_count_r 5 5 (upg gBG i1.toNatClampNeg i2.toNatClampNeg (vp_nar .boolean isb))).bind fun x_15 => some (x_15, x_5.2, upg gBG i1.toNatClampNeg i2.toNatClampNeg (vp_nar .boolean isb), upg gKG i1.toNatClampNeg i2.toNatClampNeg (vp_nar .boolean ((gKG i1.toNatClampNeg i2.toNatClampNeg) &&& isb)))) else none) else none) else none) else none) else none) else some (0, x_5.2, gBG, gKG))))
set_option maxHeartbeats 4000000 in
set_option maxRecDepth 100000 in
theorem kX9_broken_r (l : Launch) (D : va_G) (cy : Nat → ClassId) (g : Nat) (gth : Int32) (gw : Nat) (gB : Nat) (gK : Nat) (gU : Nat) (gS : Nat) (gbe : Int32) (gwo : Int32) (gta : Int64) (gn : Nat) (glr : Int32) (glc : Int32) (gti : Int32) (ggo : Int32) (gR : Nat) (gch : Int32) (gD : Nat) (gBd : Nat → Nat) (gBG : Nat → Nat → Int32) (gKd : Nat → Nat) (gKG : Nat → Nat → Int32) (i1 : Int32) (i2 : Int32) (isb : Int32) {res : Int32 × Int32 × (Nat → Nat → Int32) × (Nat → Nat → Int32)} (hR : fX9_broken_r gBG gKG i1 i2 isb = some res) : YM l D cy yX9_broken hX9_broken 3 0 0 [.ref g, .int i1, .int i2, .int isb] [[(g, .inr (11, [.int gth, .ref gw, .ref gB, .ref gK, .ref gU, .ref gS, .int gbe, .int gwo, .long gta, .ref gn, .int glr, .int glc, .int gti, .int ggo, .ref gR, .int gch, .ref gD]))], [(gB, .inl (cy 4, 5, .inr (.inr (.inr (.inr (yad gBd))))))], xg_rows gBd 5 (cy 2) 5 gBG, [(gK, .inl (cy 4, 5, .inr (.inr (.inr (.inr (yad gKd))))))], xg_rows gKd 5 (cy 2) 5 gKG] (fun v u => v = some (.int res.1) ∧ u = [[(g, .inr (11, [.int res.2.1, .ref gw, .ref gB, .ref gK, .ref gU, .ref gS, .int gbe, .int gwo, .long gta, .ref gn, .int glr, .int glc, .int gti, .int ggo, .ref gR, .int gch, .ref gD]))], [(gB, .inl (cy 4, 5, .inr (.inr (.inr (.inr (yad gBd))))))], xg_rows gBd 5 (cy 2) 5 res.2.2.1, [(gK, .inl (cy 4, 5, .inr (.inr (.inr (.inr (yad gKd))))))], xg_rows gKd 5 (cy 2) 5 res.2.2.2]) := by
  unfold fX9_broken_r at hR
  refine YM.ofI (cc := cX9_broken) (maxL := 4) (ret := (some .int)) (by decide +kernel) rfl (Nat.le_of_ble_eq_true rfl) [(0, .ref g), (1, .int i1), (2, .int i2), (3, .int isb)] rfl rfl (fun p e s m args below meth c A H0 Q C hnm ret => ?_)
  refine xr_aload_n (n := 1) (j := 0) C dd_X9_broken_0.1 rfl rfl ?_
  refine xr_iload_n (n := 2) (j := 1) C dd_X9_broken_0.2.1 rfl rfl ?_
  refine xr_iload_n (n := 3) (j := 2) C dd_X9_broken_0.2.2.1 rfl rfl ?_
  obtain ⟨x_1, hx_1, hR⟩ := yf_b hR
  refine xr_callSp (n := 6) (As := [.int i1, .int i2]) (rest := [.ref g]) C (kX9_isNoCell l D cy (i1 := i1) (i2 := i2) hx_1) mX9_isNoCell u_1335 u_1336 5 [] [0, 1, 2, 3, 4] rfl (by decide +kernel) rfl rfl rfl rfl (Nat.le_of_ble_eq_true rfl) (Nat.le_of_ble_eq_true rfl) (Nat.le_of_ble_eq_true rfl) (Nat.le_of_ble_eq_true rfl) (Nat.le_of_ble_eq_true rfl) dd_X9_broken_0.2.2.2.1 rfl (fun _ _ hp => hp.2) (fun v_2 hp_4 => ?_)
  obtain ⟨rfl, -⟩ := hp_4
  refine xr_st (st' := [.int x_1, .ref g]) rfl ?_
  refine xr_iconst (n := 7) (v := 1) C dd_X9_broken_0.2.2.2.2.1 rfl rfl ?_
  obtain ⟨x_5, hx_5, hR⟩ := yf_b hR
  refine xr_callV (n := 10) (As := [.int x_1, .int 1]) (rest := []) C (kX9_start_r l D cy (g := g) (gth := gth) (gw := gw) (gB := gB) (gK := gK) (gU := gU) (gS := gS) (gbe := gbe) (gwo := gwo) (gta := gta) (gn := gn) (glr := glr) (glc := glc) (gti := gti) (ggo := ggo) (gR := gR) (gch := gch) (gD := gD) (i1 := x_1) (i2 := 1) hx_5) mX9_start u_1301 u_1303 u_29 0 rfl rfl 5 [0] [1, 2, 3, 4] rfl (by decide +kernel) rfl rfl rfl rfl (Nat.le_of_ble_eq_true rfl) (Nat.le_of_ble_eq_true rfl) (Nat.le_of_ble_eq_true rfl) (Nat.le_of_ble_eq_true rfl) (Nat.le_of_ble_eq_true rfl) dd_X9_broken_0.2.2.2.2.2.1 rfl (fun v_6 u_7 hp_8 => ?_)
  obtain ⟨rfl, rfl⟩ := hp_8
  refine xr_perm C 5 [0, 1, 2, 3, 4] [] [[(g, .inr (11, [.int x_5.2, .ref gw, .ref gB, .ref gK, .ref gU, .ref gS, .int gbe, .int gwo, .long gta, .ref gn, .int glr, .int glc, .int gti, .int ggo, .ref gR, .int gch, .ref gD]))], [(gB, .inl (cy 4, 5, .inr (.inr (.inr (.inr (yad gBd))))))], xg_rows gBd 5 (cy 2) 5 gBG, [(gK, .inl (cy 4, 5, .inr (.inr (.inr (.inr (yad gKd))))))], xg_rows gKd 5 (cy 2) 5 gKG] rfl (by decide +kernel) rfl ?_
  refine xr_st (st' := [.int x_5.1]) rfl ?_
  refine xr_if_eq (tgt := 15) (n := 13) C dd_X9_broken_0.2.2.2.2.2.2.1 rfl rfl (fun c_9 => ?_) (fun c_9 => ?_)
  · replace hR := yf_t c_9 hR
    refine xr_aload_n (n := 16) (j := 0) C dd_X9_broken_0.2.2.2.2.2.2.2.2.2.1 rfl rfl ?_
    refine xr_get (n := 19) C 0 rfl rfl 2 (by decide) in_X9 u_1239 rfl (v := .ref gB) rfl dd_X9_broken_0.2.2.2.2.2.2.2.2.2.2.1 rfl ?_
    refine xr_iload_n (n := 20) (j := 1) C dd_X9_broken_0.2.2.2.2.2.2.2.2.2.2.2.1 rfl rfl ?_
    obtain ⟨g_10, hR⟩ := yf_g hR
    refine xr_aald (n := 21) C 1 0 rfl 4 rfl rfl g_10 rfl dd_X9_broken_0.2.2.2.2.2.2.2.2.2.2.2.2.1 rfl ?_
    refine xr_iload_n (n := 22) (j := 2) C dd_X9_broken_0.2.2.2.2.2.2.2.2.2.2.2.2.2.1 rfl rfl ?_
    refine xr_iload_n (n := 23) (j := 3) C dd_X9_broken_0.2.2.2.2.2.2.2.2.2.2.2.2.2.2.1 rfl rfl ?_
    obtain ⟨g_11, hR⟩ := yf_g hR
    refine xr_zastg (n := 24) C 2 rfl i1.toNatClampNeg (ylt g_10) g_11 [[(g, .inr (11, [.int x_5.2, .ref gw, .ref gB, .ref gK, .ref gU, .ref gS, .int gbe, .int gwo, .long gta, .ref gn, .int glr, .int glc, .int gti, .int ggo, .ref gR, .int gch, .ref gD]))], [(gB, .inl (cy 4, 5, .inr (.inr (.inr (.inr (yad gBd))))))], xg_rows gBd 5 (cy 2) 5 (upg gBG i1.toNatClampNeg i2.toNatClampNeg (vp_nar .boolean isb)), [(gK, .inl (cy 4, 5, .inr (.inr (.inr (.inr (yad gKd))))))], xg_rows gKd 5 (cy 2) 5 gKG] rfl dd_X9_broken_0.2.2.2.2.2.2.2.2.2.2.2.2.2.2.2.1 rfl ?_
    refine xr_aload_n (n := 25) (j := 0) C dd_X9_broken_1.1 rfl rfl ?_
    refine xr_get (n := 28) C 0 rfl rfl 3 (by decide) in_X9 u_1240 rfl (v := .ref gK) rfl dd_X9_broken_1.2.1 rfl ?_
    refine xr_iload_n (n := 29) (j := 1) C dd_X9_broken_1.2.2.1 rfl rfl ?_
    obtain ⟨g_12, hR⟩ := yf_g hR
    refine xr_aald (n := 30) C 3 0 rfl 4 rfl rfl g_12 rfl dd_X9_broken_1.2.2.2.1 rfl ?_
    refine xr_iload_n (n := 31) (j := 2) C dd_X9_broken_1.2.2.2.2.1 rfl rfl ?_
    refine xr_dup2 (n := 32) C dd_X9_broken_1.2.2.2.2.2.1 rfl rfl rfl ?_
    obtain ⟨g_13, hR⟩ := yf_g hR
    refine xr_zaldg (n := 33) C 4 rfl i1.toNatClampNeg (ylt g_12) g_13 dd_X9_broken_1.2.2.2.2.2.2.1 rfl ?_
    refine xr_iload_n (n := 34) (j := 3) C dd_X9_broken_1.2.2.2.2.2.2.2.1 rfl rfl ?_
    refine xr_iand (n := 35) C dd_X9_broken_1.2.2.2.2.2.2.2.2.1 rfl ?_
    obtain ⟨g_14, hR⟩ := yf_g hR
    refine xr_zastg (n := 36) C 4 rfl i1.toNatClampNeg (ylt g_12) g_14 [[(g, .inr (11, [.int x_5.2, .ref gw, .ref gB, .ref gK, .ref gU, .ref gS, .int gbe, .int gwo, .long gta, .ref gn, .int glr, .int glc, .int gti, .int ggo, .ref gR, .int gch, .ref gD]))], [(gB, .inl (cy 4, 5, .inr (.inr (.inr (.inr (yad gBd))))))], xg_rows gBd 5 (cy 2) 5 (upg gBG i1.toNatClampNeg i2.toNatClampNeg (vp_nar .boolean isb)), [(gK, .inl (cy 4, 5, .inr (.inr (.inr (.inr (yad gKd))))))], xg_rows gKd 5 (cy 2) 5 (upg gKG i1.toNatClampNeg i2.toNatClampNeg (vp_nar .boolean ((gKG i1.toNatClampNeg i2.toNatClampNeg) &&& isb)))] rfl dd_X9_broken_1.2.2.2.2.2.2.2.2.2.1 rfl ?_
    refine xr_aload_n (n := 37) (j := 0) C dd_X9_broken_1.2.2.2.2.2.2.2.2.2.2.1 rfl rfl ?_
    refine xr_aload_n (n := 38) (j := 0) C dd_X9_broken_1.2.2.2.2.2.2.2.2.2.2.2.1 rfl rfl ?_
    refine xr_get (n := 41) C 0 rfl rfl 2 (by decide) in_X9 u_1239 rfl (v := .ref gB) rfl dd_X9_broken_1.2.2.2.2.2.2.2.2.2.2.2.2.1 rfl ?_
    obtain ⟨x_15, hx_15, hR⟩ := yf_b hR
    refine xr_callVp (n := 44) (As := [.ref gB]) (rest := []) C (kX9_count_r l D cy (g := g) (gth := x_5.2) (gw := gw) (gB := gB) (gK := gK) (gU := gU) (gS := gS) (gbe := gbe) (gwo := gwo) (gta := gta) (gn := gn) (glr := glr) (glc := glc) (gti := gti) (ggo := ggo) (gR := gR) (gch := gch) (gD := gD) (h := gB) (hd := gBd) (hn := 5) (hk := 5) (hG := upg gBG i1.toNatClampNeg i2.toNatClampNeg (vp_nar .boolean isb)) hx_15) mX9_count u_1338 u_1340 u_31 0 rfl rfl 5 [0, 1, 2] [3, 4] rfl (by decide +kernel) rfl rfl rfl rfl (Nat.le_of_ble_eq_true rfl) (Nat.le_of_ble_eq_true rfl) (Nat.le_of_ble_eq_true rfl) (Nat.le_of_ble_eq_true rfl) (Nat.le_of_ble_eq_true rfl) dd_X9_broken_1.2.2.2.2.2.2.2.2.2.2.2.2.2.1 rfl (fun _ _ hp => hp.2) (fun v_16 hp_18 => ?_)
    obtain ⟨rfl, -⟩ := hp_18
    refine xr_st (st' := [.int x_15]) rfl ?_
    obtain rfl := Option.some.inj hR
    exact ret x_15 ⟨rfl, rfl⟩ (Nat.le_of_ble_eq_true rfl) (Nat.le_of_ble_eq_true rfl) dd_X9_broken_1.2.2.2.2.2.2.2.2.2.2.2.2.2.2.1
  · replace hR := yf_f c_9 hR
    refine xr_iconst (n := 14) (v := 0) C dd_X9_broken_0.2.2.2.2.2.2.2.1 rfl rfl ?_
    obtain rfl := Option.some.inj hR
    exact ret 0 ⟨rfl, rfl⟩ (Nat.le_of_ble_eq_true rfl) (Nat.le_of_ble_eq_true rfl) dd_X9_broken_0.2.2.2.2.2.2.2.2.1
theorem dd_X9_h_0 : dk_R cX9_h [(0, .aload_n 0, 1), (1, .getfield 146, 3), (4, .invokestatic 103, 3), (7, .ireturn, 1)] := dk_use _ _ (by decide +kernel)
def fX9_h (glr : Int32) : Option (Int32) := ((fJ6_bitCount_0f7a4 glr).bind fun x_1 => some x_1)
abbrev hX9_h : Cond := .code yX9_h cX9_h 1 (some .int)
theorem mX9_h : yM yX9_h hX9_h 0 := ⟨u_1433, u_64, by decide +kernel, by decide +kernel, by decide +kernel⟩
set_option maxHeartbeats 4000000 in
set_option maxRecDepth 100000 in
theorem kX9_h (l : Launch) (D : va_G) (cy : Nat → ClassId) (g : Nat) (gth : Int32) (gw : Nat) (gB : Nat) (gK : Nat) (gU : Nat) (gS : Nat) (gbe : Int32) (gwo : Int32) (gta : Int64) (gn : Nat) (glr : Int32) (glc : Int32) (gti : Int32) (ggo : Int32) (gR : Nat) (gch : Int32) (gD : Nat) {res : Int32} (hR : fX9_h glr = some res) : YM l D cy yX9_h hX9_h 2 0 0 [.ref g] [[(g, .inr (11, [.int gth, .ref gw, .ref gB, .ref gK, .ref gU, .ref gS, .int gbe, .int gwo, .long gta, .ref gn, .int glr, .int glc, .int gti, .int ggo, .ref gR, .int gch, .ref gD]))]] (fun v u => v = some (.int res) ∧ u = [[(g, .inr (11, [.int gth, .ref gw, .ref gB, .ref gK, .ref gU, .ref gS, .int gbe, .int gwo, .long gta, .ref gn, .int glr, .int glc, .int gti, .int ggo, .ref gR, .int gch, .ref gD]))]]) := by
  unfold fX9_h at hR
  refine YM.ofI (cc := cX9_h) (maxL := 1) (ret := (some .int)) (by decide +kernel) rfl (Nat.le_of_ble_eq_true rfl) [(0, .ref g)] rfl rfl (fun p e s m args below meth c A H0 Q C hnm ret => ?_)
  refine xr_aload_n (n := 1) (j := 0) C dd_X9_h_0.1 rfl rfl ?_
  refine xr_get (n := 4) C 0 rfl rfl 10 (by decide) in_X9 u_1247 rfl (v := .int glr) rfl dd_X9_h_0.2.1 rfl ?_
  obtain ⟨x_1, hx_1, hR⟩ := yf_b hR
  refine xr_callSp (n := 7) (As := [.int glr]) (rest := []) C (kJ6_bitCount_0f7a4 l D cy (i1 := glr) hx_1) mJ6_bitCount_0f7a4 u_1383 u_349 1 [] [0] rfl (by decide +kernel) rfl rfl rfl rfl (Nat.le_of_ble_eq_true rfl) (Nat.le_of_ble_eq_true rfl) (Nat.le_of_ble_eq_true rfl) (Nat.le_of_ble_eq_true rfl) (Nat.le_of_ble_eq_true rfl) dd_X9_h_0.2.2.1 rfl (fun _ _ hp => hp.2) (fun v_2 hp_4 => ?_)
  obtain ⟨rfl, -⟩ := hp_4
  refine xr_st (st' := [.int x_1]) rfl ?_
  obtain rfl := Option.some.inj hR
  exact ret x_1 ⟨rfl, rfl⟩ (Nat.le_of_ble_eq_true rfl) (Nat.le_of_ble_eq_true rfl) dd_X9_h_0.2.2.2.1
theorem dd_X9_w_0 : dk_R cX9_w [(0, .aload_n 0, 1), (1, .getfield 149, 3), (4, .invokestatic 103, 3), (7, .ireturn, 1)] := dk_use _ _ (by decide +kernel)
def fX9_w (glc : Int32) : Option (Int32) := ((fJ6_bitCount_0f7a4 glc).bind fun x_1 => some x_1)
abbrev hX9_w : Cond := .code yX9_w cX9_w 1 (some .int)
theorem mX9_w : yM yX9_w hX9_w 0 := ⟨u_1429, u_64, by decide +kernel, by decide +kernel, by decide +kernel⟩
set_option maxHeartbeats 4000000 in
set_option maxRecDepth 100000 in
theorem kX9_w (l : Launch) (D : va_G) (cy : Nat → ClassId) (g : Nat) (gth : Int32) (gw : Nat) (gB : Nat) (gK : Nat) (gU : Nat) (gS : Nat) (gbe : Int32) (gwo : Int32) (gta : Int64) (gn : Nat) (glr : Int32) (glc : Int32) (gti : Int32) (ggo : Int32) (gR : Nat) (gch : Int32) (gD : Nat) {res : Int32} (hR : fX9_w glc = some res) : YM l D cy yX9_w hX9_w 2 0 0 [.ref g] [[(g, .inr (11, [.int gth, .ref gw, .ref gB, .ref gK, .ref gU, .ref gS, .int gbe, .int gwo, .long gta, .ref gn, .int glr, .int glc, .int gti, .int ggo, .ref gR, .int gch, .ref gD]))]] (fun v u => v = some (.int res) ∧ u = [[(g, .inr (11, [.int gth, .ref gw, .ref gB, .ref gK, .ref gU, .ref gS, .int gbe, .int gwo, .long gta, .ref gn, .int glr, .int glc, .int gti, .int ggo, .ref gR, .int gch, .ref gD]))]]) := by
  unfold fX9_w at hR
  refine YM.ofI (cc := cX9_w) (maxL := 1) (ret := (some .int)) (by decide +kernel) rfl (Nat.le_of_ble_eq_true rfl) [(0, .ref g)] rfl rfl (fun p e s m args below meth c A H0 Q C hnm ret => ?_)
  refine xr_aload_n (n := 1) (j := 0) C dd_X9_w_0.1 rfl rfl ?_
  refine xr_get (n := 4) C 0 rfl rfl 11 (by decide) in_X9 u_1248 rfl (v := .int glc) rfl dd_X9_w_0.2.1 rfl ?_
  obtain ⟨x_1, hx_1, hR⟩ := yf_b hR
  refine xr_callSp (n := 7) (As := [.int glc]) (rest := []) C (kJ6_bitCount_0f7a4 l D cy (i1 := glc) hx_1) mJ6_bitCount_0f7a4 u_1383 u_349 1 [] [0] rfl (by decide +kernel) rfl rfl rfl rfl (Nat.le_of_ble_eq_true rfl) (Nat.le_of_ble_eq_true rfl) (Nat.le_of_ble_eq_true rfl) (Nat.le_of_ble_eq_true rfl) (Nat.le_of_ble_eq_true rfl) dd_X9_w_0.2.2.1 rfl (fun _ _ hp => hp.2) (fun v_2 hp_4 => ?_)
  obtain ⟨rfl, -⟩ := hp_4
  refine xr_st (st' := [.int x_1]) rfl ?_
  obtain rfl := Option.some.inj hR
  exact ret x_1 ⟨rfl, rfl⟩ (Nat.le_of_ble_eq_true rfl) (Nat.le_of_ble_eq_true rfl) dd_X9_w_0.2.2.2.1
theorem dd_X9_tileRows_0 : dk_R cX9_tileRows [(0, .aload_n 0, 1), (1, .getfield 137, 3), (4, .invokevirtual 106, 3), (7, .aload_n 0, 1), (8, .invokevirtual 152, 3), (11, .aload_n 0, 1), (12, .getfield 155, 3), (15, .aload_n 0, 1), (16, .getfield 137, 3), (19, .invokevirtual 113, 3), (22, .aload_n 0, 1), (23, .invokevirtual 158, 3), (26, .invokestatic 110, 3), (29, .idiv, 1), (30, .invokestatic 116, 3), (33, .ireturn, 1)] := dk_use _ _ (by decide +kernel)
def fX9_tileRows (glr : Int32) (glc : Int32) (gti : Int32) (gnr : Int32) (gnc : Int32) (gns : Int32) : Option (Int32) := ((fX8_rows gnr gns).bind fun x_1 => ((fX9_h glr).bind fun x_5 => ((fX8_columns gnc gns).bind fun x_9 => ((fX9_w glc).bind fun x_13 => ((fX9_tiles x_9 x_13).bind fun x_17 => (if ¬ x_17 = 0 then ((fX9_size x_1 x_5 (gti / x_17)).bind fun x_22 => some x_22) else none))))))
abbrev hX9_tileRows : Cond := .code yX9_tileRows cX9_tileRows 1 (some .int)
theorem mX9_tileRows : yM yX9_tileRows hX9_tileRows 0 := ⟨u_1446, u_64, by decide +kernel, by decide +kernel, by decide +kernel⟩
set_option maxHeartbeats 4000000 in
set_option maxRecDepth 100000 in
theorem kX9_tileRows (l : Launch) (D : va_G) (cy : Nat → ClassId) (g : Nat) (gth : Int32) (gw : Nat) (gB : Nat) (gK : Nat) (gU : Nat) (gS : Nat) (gbe : Int32) (gwo : Int32) (gta : Int64) (gn : Nat) (glr : Int32) (glc : Int32) (gti : Int32) (ggo : Int32) (gR : Nat) (gch : Int32) (gD : Nat) (gnr : Int32) (gnk : Int32) (gnc : Int32) (gng : Int32) (gns : Int32) (gna : Nat) (gnb : Nat) {res : Int32} (hR : fX9_tileRows glr glc gti gnr gnc gns = some res) : YM l D cy yX9_tileRows hX9_tileRows 3 0 0 [.ref g] [[(g, .inr (11, [.int gth, .ref gw, .ref gB, .ref gK, .ref gU, .ref gS, .int gbe, .int gwo, .long gta, .ref gn, .int glr, .int glc, .int gti, .int ggo, .ref gR, .int gch, .ref gD]))], [(gn, .inr (10, [.int gnr, .int gnk, .int gnc, .int gng, .int gns, .ref gna, .ref gnb]))]] (fun v u => v = some (.int res) ∧ u = [[(g, .inr (11, [.int gth, .ref gw, .ref gB, .ref gK, .ref gU, .ref gS, .int gbe, .int gwo, .long gta, .ref gn, .int glr, .int glc, .int gti, .int ggo, .ref gR, .int gch, .ref gD]))], [(gn, .inr (10, [.int gnr, .int gnk, .int gnc, .int gng, .int gns, .ref gna, .ref gnb]))]]) := by
  unfold fX9_tileRows at hR
  refine YM.ofI (cc := cX9_tileRows) (maxL := 1) (ret := (some .int)) (by decide +kernel) rfl (Nat.le_of_ble_eq_true rfl) [(0, .ref g)] rfl rfl (fun p e s m args below meth c A H0 Q C hnm ret => ?_)
  refine xr_aload_n (n := 1) (j := 0) C dd_X9_tileRows_0.1 rfl rfl ?_
  refine xr_get (n := 4) C 0 rfl rfl 9 (by decide) in_X9 u_1246 rfl (v := .ref gn) rfl dd_X9_tileRows_0.2.1 rfl ?_
  obtain ⟨x_1, hx_1, hR⟩ := yf_b hR
  refine xr_callVp (n := 7) (As := []) (rest := []) C (kX8_rows l D cy (w := gn) (wr := gnr) (wk := gnk) (wc := gnc) (wg := gng) (ws := gns) (wa := gna) (wb := gnb) hx_1) mX8_rows u_1384 u_1385 u_1386 1 rfl rfl 2 [1] [0] rfl (by decide +kernel) rfl rfl rfl rfl (Nat.le_of_ble_eq_true rfl) (Nat.le_of_ble_eq_true rfl) (Nat.le_of_ble_eq_true rfl) (Nat.le_of_ble_eq_true rfl) (Nat.le_of_ble_eq_true rfl) dd_X9_tileRows_0.2.2.1 rfl (fun _ _ hp => hp.2) (fun v_2 hp_4 => ?_)
  obtain ⟨rfl, -⟩ := hp_4
  refine xr_st (st' := [.int x_1]) rfl ?_
  refine xr_aload_n (n := 8) (j := 0) C dd_X9_tileRows_0.2.2.2.1 rfl rfl ?_
  obtain ⟨x_5, hx_5, hR⟩ := yf_b hR
  refine xr_callVp (n := 11) (As := []) (rest := [.int x_1]) C (kX9_h l D cy (g := g) (gth := gth) (gw := gw) (gB := gB) (gK := gK) (gU := gU) (gS := gS) (gbe := gbe) (gwo := gwo) (gta := gta) (gn := gn) (glr := glr) (glc := glc) (gti := gti) (ggo := ggo) (gR := gR) (gch := gch) (gD := gD) hx_5) mX9_h u_1430 u_1432 u_38 0 rfl rfl 2 [0] [1] rfl (by decide +kernel) rfl rfl rfl rfl (Nat.le_of_ble_eq_true rfl) (Nat.le_of_ble_eq_true rfl) (Nat.le_of_ble_eq_true rfl) (Nat.le_of_ble_eq_true rfl) (Nat.le_of_ble_eq_true rfl) dd_X9_tileRows_0.2.2.2.2.1 rfl (fun _ _ hp => hp.2) (fun v_6 hp_8 => ?_)
  obtain ⟨rfl, -⟩ := hp_8
  refine xr_st (st' := [.int x_5, .int x_1]) rfl ?_
  refine xr_aload_n (n := 12) (j := 0) C dd_X9_tileRows_0.2.2.2.2.2.1 rfl rfl ?_
  refine xr_get (n := 15) C 0 rfl rfl 12 (by decide) in_X9 u_1249 rfl (v := .int gti) rfl dd_X9_tileRows_0.2.2.2.2.2.2.1 rfl ?_
  refine xr_aload_n (n := 16) (j := 0) C dd_X9_tileRows_0.2.2.2.2.2.2.2.1 rfl rfl ?_
  refine xr_get (n := 19) C 0 rfl rfl 9 (by decide) in_X9 u_1246 rfl (v := .ref gn) rfl dd_X9_tileRows_0.2.2.2.2.2.2.2.2.1 rfl ?_
  obtain ⟨x_9, hx_9, hR⟩ := yf_b hR
  refine xr_callVp (n := 22) (As := []) (rest := [.int gti, .int x_5, .int x_1]) C (kX8_columns l D cy (w := gn) (wr := gnr) (wk := gnk) (wc := gnc) (wg := gng) (ws := gns) (wa := gna) (wb := gnb) hx_9) mX8_columns u_1391 u_1392 u_1393 1 rfl rfl 2 [1] [0] rfl (by decide +kernel) rfl rfl rfl rfl (Nat.le_of_ble_eq_true rfl) (Nat.le_of_ble_eq_true rfl) (Nat.le_of_ble_eq_true rfl) (Nat.le_of_ble_eq_true rfl) (Nat.le_of_ble_eq_true rfl) dd_X9_tileRows_0.2.2.2.2.2.2.2.2.2.1 rfl (fun _ _ hp => hp.2) (fun v_10 hp_12 => ?_)
  obtain ⟨rfl, -⟩ := hp_12
  refine xr_st (st' := [.int x_9, .int gti, .int x_5, .int x_1]) rfl ?_
  refine xr_aload_n (n := 23) (j := 0) C dd_X9_tileRows_0.2.2.2.2.2.2.2.2.2.2.1 rfl rfl ?_
  obtain ⟨x_13, hx_13, hR⟩ := yf_b hR
  refine xr_callVp (n := 26) (As := []) (rest := [.int x_9, .int gti, .int x_5, .int x_1]) C (kX9_w l D cy (g := g) (gth := gth) (gw := gw) (gB := gB) (gK := gK) (gU := gU) (gS := gS) (gbe := gbe) (gwo := gwo) (gta := gta) (gn := gn) (glr := glr) (glc := glc) (gti := gti) (ggo := ggo) (gR := gR) (gch := gch) (gD := gD) hx_13) mX9_w u_1426 u_1428 u_37 0 rfl rfl 2 [0] [1] rfl (by decide +kernel) rfl rfl rfl rfl (Nat.le_of_ble_eq_true rfl) (Nat.le_of_ble_eq_true rfl) (Nat.le_of_ble_eq_true rfl) (Nat.le_of_ble_eq_true rfl) (Nat.le_of_ble_eq_true rfl) dd_X9_tileRows_0.2.2.2.2.2.2.2.2.2.2.2.1 rfl (fun _ _ hp => hp.2) (fun v_14 hp_16 => ?_)
  obtain ⟨rfl, -⟩ := hp_16
  refine xr_st (st' := [.int x_13, .int x_9, .int gti, .int x_5, .int x_1]) rfl ?_
  obtain ⟨x_17, hx_17, hR⟩ := yf_b hR
  refine xr_callSp (n := 29) (As := [.int x_9, .int x_13]) (rest := [.int gti, .int x_5, .int x_1]) C (kX9_tiles l D cy (i1 := x_9) (i2 := x_13) hx_17) mX9_tiles u_1388 u_1389 2 [] [0, 1] rfl (by decide +kernel) rfl rfl rfl rfl (Nat.le_of_ble_eq_true rfl) (Nat.le_of_ble_eq_true rfl) (Nat.le_of_ble_eq_true rfl) (Nat.le_of_ble_eq_true rfl) (Nat.le_of_ble_eq_true rfl) dd_X9_tileRows_0.2.2.2.2.2.2.2.2.2.2.2.2.1 rfl (fun _ _ hp => hp.2) (fun v_18 hp_20 => ?_)
  obtain ⟨rfl, -⟩ := hp_20
  refine xr_st (st' := [.int x_17, .int gti, .int x_5, .int x_1]) rfl ?_
  obtain ⟨g_21, hR⟩ := yf_g hR
  refine xr_idiv (n := 30) C dd_X9_tileRows_0.2.2.2.2.2.2.2.2.2.2.2.2.2.1 g_21 rfl ?_
  obtain ⟨x_22, hx_22, hR⟩ := yf_b hR
  refine xr_callSp (n := 33) (As := [.int x_1, .int x_5, .int (gti / x_17)]) (rest := []) C (kX9_size l D cy (i1 := x_1) (i2 := x_5) (i3 := gti / x_17) hx_22) mX9_size u_1395 u_1396 2 [] [0, 1] rfl (by decide +kernel) rfl rfl rfl rfl (Nat.le_of_ble_eq_true rfl) (Nat.le_of_ble_eq_true rfl) (Nat.le_of_ble_eq_true rfl) (Nat.le_of_ble_eq_true rfl) (Nat.le_of_ble_eq_true rfl) dd_X9_tileRows_0.2.2.2.2.2.2.2.2.2.2.2.2.2.2.1 rfl (fun _ _ hp => hp.2) (fun v_23 hp_25 => ?_)
  obtain ⟨rfl, -⟩ := hp_25
  refine xr_st (st' := [.int x_22]) rfl ?_
  obtain rfl := Option.some.inj hR
  exact ret x_22 ⟨rfl, rfl⟩ (Nat.le_of_ble_eq_true rfl) (Nat.le_of_ble_eq_true rfl) dd_X9_tileRows_0.2.2.2.2.2.2.2.2.2.2.2.2.2.2.2.1
theorem dd_X9_tileColumns_0 : dk_R cX9_tileColumns [(0, .aload_n 0, 1), (1, .getfield 137, 3), (4, .invokevirtual 113, 3), (7, .aload_n 0, 1), (8, .invokevirtual 158, 3), (11, .aload_n 0, 1), (12, .getfield 155, 3), (15, .aload_n 0, 1), (16, .getfield 137, 3), (19, .invokevirtual 113, 3), (22, .aload_n 0, 1), (23, .invokevirtual 158, 3), (26, .invokestatic 110, 3), (29, .irem, 1), (30, .invokestatic 116, 3), (33, .ireturn, 1)] := dk_use _ _ (by decide +kernel)
def fX9_tileColumns (glc : Int32) (gti : Int32) (gnc : Int32) (gns : Int32) : Option (Int32) := ((fX8_columns gnc gns).bind fun x_1 => ((fX9_w glc).bind fun x_5 => ((fX8_columns gnc gns).bind fun x_9 => ((fX9_w glc).bind fun x_13 => ((fX9_tiles x_9 x_13).bind fun x_17 => (if ¬ x_17 = 0 then ((fX9_size x_1 x_5 (gti - gti / x_17 * x_17)).bind fun x_22 => some x_22) else none))))))
abbrev hX9_tileColumns : Cond := .code yX9_tileColumns cX9_tileColumns 1 (some .int)
theorem mX9_tileColumns : yM yX9_tileColumns hX9_tileColumns 0 := ⟨u_1450, u_64, by decide +kernel, by decide +kernel, by decide +kernel⟩
set_option maxHeartbeats 4000000 in
set_option maxRecDepth 100000 in
theorem kX9_tileColumns (l : Launch) (D : va_G) (cy : Nat → ClassId) (g : Nat) (gth : Int32) (gw : Nat) (gB : Nat) (gK : Nat) (gU : Nat) (gS : Nat) (gbe : Int32) (gwo : Int32) (gta : Int64) (gn : Nat) (glr : Int32) (glc : Int32) (gti : Int32) (ggo : Int32) (gR : Nat) (gch : Int32) (gD : Nat) (gnr : Int32) (gnk : Int32) (gnc : Int32) (gng : Int32) (gns : Int32) (gna : Nat) (gnb : Nat) {res : Int32} (hR : fX9_tileColumns glc gti gnc gns = some res) : YM l D cy yX9_tileColumns hX9_tileColumns 3 0 0 [.ref g] [[(g, .inr (11, [.int gth, .ref gw, .ref gB, .ref gK, .ref gU, .ref gS, .int gbe, .int gwo, .long gta, .ref gn, .int glr, .int glc, .int gti, .int ggo, .ref gR, .int gch, .ref gD]))], [(gn, .inr (10, [.int gnr, .int gnk, .int gnc, .int gng, .int gns, .ref gna, .ref gnb]))]] (fun v u => v = some (.int res) ∧ u = [[(g, .inr (11, [.int gth, .ref gw, .ref gB, .ref gK, .ref gU, .ref gS, .int gbe, .int gwo, .long gta, .ref gn, .int glr, .int glc, .int gti, .int ggo, .ref gR, .int gch, .ref gD]))], [(gn, .inr (10, [.int gnr, .int gnk, .int gnc, .int gng, .int gns, .ref gna, .ref gnb]))]]) := by
  unfold fX9_tileColumns at hR
  refine YM.ofI (cc := cX9_tileColumns) (maxL := 1) (ret := (some .int)) (by decide +kernel) rfl (Nat.le_of_ble_eq_true rfl) [(0, .ref g)] rfl rfl (fun p e s m args below meth c A H0 Q C hnm ret => ?_)
  refine xr_aload_n (n := 1) (j := 0) C dd_X9_tileColumns_0.1 rfl rfl ?_
  refine xr_get (n := 4) C 0 rfl rfl 9 (by decide) in_X9 u_1246 rfl (v := .ref gn) rfl dd_X9_tileColumns_0.2.1 rfl ?_
  obtain ⟨x_1, hx_1, hR⟩ := yf_b hR
  refine xr_callVp (n := 7) (As := []) (rest := []) C (kX8_columns l D cy (w := gn) (wr := gnr) (wk := gnk) (wc := gnc) (wg := gng) (ws := gns) (wa := gna) (wb := gnb) hx_1) mX8_columns u_1391 u_1392 u_1393 1 rfl rfl 2 [1] [0] rfl (by decide +kernel) rfl rfl rfl rfl (Nat.le_of_ble_eq_true rfl) (Nat.le_of_ble_eq_true rfl) (Nat.le_of_ble_eq_true rfl) (Nat.le_of_ble_eq_true rfl) (Nat.le_of_ble_eq_true rfl) dd_X9_tileColumns_0.2.2.1 rfl (fun _ _ hp => hp.2) (fun v_2 hp_4 => ?_)
  obtain ⟨rfl, -⟩ := hp_4
  refine xr_st (st' := [.int x_1]) rfl ?_
  refine xr_aload_n (n := 8) (j := 0) C dd_X9_tileColumns_0.2.2.2.1 rfl rfl ?_
  obtain ⟨x_5, hx_5, hR⟩ := yf_b hR
  refine xr_callVp (n := 11) (As := []) (rest := [.int x_1]) C (kX9_w l D cy (g := g) (gth := gth) (gw := gw) (gB := gB) (gK := gK) (gU := gU) (gS := gS) (gbe := gbe) (gwo := gwo) (gta := gta) (gn := gn) (glr := glr) (glc := glc) (gti := gti) (ggo := ggo) (gR := gR) (gch := gch) (gD := gD) hx_5) mX9_w u_1426 u_1428 u_37 0 rfl rfl 2 [0] [1] rfl (by decide +kernel) rfl rfl rfl rfl (Nat.le_of_ble_eq_true rfl) (Nat.le_of_ble_eq_true rfl) (Nat.le_of_ble_eq_true rfl) (Nat.le_of_ble_eq_true rfl) (Nat.le_of_ble_eq_true rfl) dd_X9_tileColumns_0.2.2.2.2.1 rfl (fun _ _ hp => hp.2) (fun v_6 hp_8 => ?_)
  obtain ⟨rfl, -⟩ := hp_8
  refine xr_st (st' := [.int x_5, .int x_1]) rfl ?_
  refine xr_aload_n (n := 12) (j := 0) C dd_X9_tileColumns_0.2.2.2.2.2.1 rfl rfl ?_
  refine xr_get (n := 15) C 0 rfl rfl 12 (by decide) in_X9 u_1249 rfl (v := .int gti) rfl dd_X9_tileColumns_0.2.2.2.2.2.2.1 rfl ?_
  refine xr_aload_n (n := 16) (j := 0) C dd_X9_tileColumns_0.2.2.2.2.2.2.2.1 rfl rfl ?_
  refine xr_get (n := 19) C 0 rfl rfl 9 (by decide) in_X9 u_1246 rfl (v := .ref gn) rfl dd_X9_tileColumns_0.2.2.2.2.2.2.2.2.1 rfl ?_
  obtain ⟨x_9, hx_9, hR⟩ := yf_b hR
  refine xr_callVp (n := 22) (As := []) (rest := [.int gti, .int x_5, .int x_1]) C (kX8_columns l D cy (w := gn) (wr := gnr) (wk := gnk) (wc := gnc) (wg := gng) (ws := gns) (wa := gna) (wb := gnb) hx_9) mX8_columns u_1391 u_1392 u_1393 1 rfl rfl 2 [1] [0] rfl (by decide +kernel) rfl rfl rfl rfl (Nat.le_of_ble_eq_true rfl) (Nat.le_of_ble_eq_true rfl) (Nat.le_of_ble_eq_true rfl) (Nat.le_of_ble_eq_true rfl) (Nat.le_of_ble_eq_true rfl) dd_X9_tileColumns_0.2.2.2.2.2.2.2.2.2.1 rfl (fun _ _ hp => hp.2) (fun v_10 hp_12 => ?_)
  obtain ⟨rfl, -⟩ := hp_12
  refine xr_st (st' := [.int x_9, .int gti, .int x_5, .int x_1]) rfl ?_
  refine xr_aload_n (n := 23) (j := 0) C dd_X9_tileColumns_0.2.2.2.2.2.2.2.2.2.2.1 rfl rfl ?_
  obtain ⟨x_13, hx_13, hR⟩ := yf_b hR
  refine xr_callVp (n := 26) (As := []) (rest := [.int x_9, .int gti, .int x_5, .int x_1]) C (kX9_w l D cy (g := g) (gth := gth) (gw := gw) (gB := gB) (gK := gK) (gU := gU) (gS := gS) (gbe := gbe) (gwo := gwo) (gta := gta) (gn := gn) (glr := glr) (glc := glc) (gti := gti) (ggo := ggo) (gR := gR) (gch := gch) (gD := gD) hx_13) mX9_w u_1426 u_1428 u_37 0 rfl rfl 2 [0] [1] rfl (by decide +kernel) rfl rfl rfl rfl (Nat.le_of_ble_eq_true rfl) (Nat.le_of_ble_eq_true rfl) (Nat.le_of_ble_eq_true rfl) (Nat.le_of_ble_eq_true rfl) (Nat.le_of_ble_eq_true rfl) dd_X9_tileColumns_0.2.2.2.2.2.2.2.2.2.2.2.1 rfl (fun _ _ hp => hp.2) (fun v_14 hp_16 => ?_)
  obtain ⟨rfl, -⟩ := hp_16
  refine xr_st (st' := [.int x_13, .int x_9, .int gti, .int x_5, .int x_1]) rfl ?_
  obtain ⟨x_17, hx_17, hR⟩ := yf_b hR
  refine xr_callSp (n := 29) (As := [.int x_9, .int x_13]) (rest := [.int gti, .int x_5, .int x_1]) C (kX9_tiles l D cy (i1 := x_9) (i2 := x_13) hx_17) mX9_tiles u_1388 u_1389 2 [] [0, 1] rfl (by decide +kernel) rfl rfl rfl rfl (Nat.le_of_ble_eq_true rfl) (Nat.le_of_ble_eq_true rfl) (Nat.le_of_ble_eq_true rfl) (Nat.le_of_ble_eq_true rfl) (Nat.le_of_ble_eq_true rfl) dd_X9_tileColumns_0.2.2.2.2.2.2.2.2.2.2.2.2.1 rfl (fun _ _ hp => hp.2) (fun v_18 hp_20 => ?_)
  obtain ⟨rfl, -⟩ := hp_20
  refine xr_st (st' := [.int x_17, .int gti, .int x_5, .int x_1]) rfl ?_
  obtain ⟨g_21, hR⟩ := yf_g hR
  refine xr_irem (n := 30) C dd_X9_tileColumns_0.2.2.2.2.2.2.2.2.2.2.2.2.2.1 g_21 rfl ?_
  obtain ⟨x_22, hx_22, hR⟩ := yf_b hR
  refine xr_callSp (n := 33) (As := [.int x_1, .int x_5, .int (gti - gti / x_17 * x_17)]) (rest := []) C (kX9_size l D cy (i1 := x_1) (i2 := x_5) (i3 := gti - gti / x_17 * x_17) hx_22) mX9_size u_1395 u_1396 2 [] [0, 1] rfl (by decide +kernel) rfl rfl rfl rfl (Nat.le_of_ble_eq_true rfl) (Nat.le_of_ble_eq_true rfl) (Nat.le_of_ble_eq_true rfl) (Nat.le_of_ble_eq_true rfl) (Nat.le_of_ble_eq_true rfl) dd_X9_tileColumns_0.2.2.2.2.2.2.2.2.2.2.2.2.2.2.1 rfl (fun _ _ hp => hp.2) (fun v_23 hp_25 => ?_)
  obtain ⟨rfl, -⟩ := hp_25
  refine xr_st (st' := [.int x_22]) rfl ?_
  obtain rfl := Option.some.inj hR
  exact ret x_22 ⟨rfl, rfl⟩ (Nat.le_of_ble_eq_true rfl) (Nat.le_of_ble_eq_true rfl) dd_X9_tileColumns_0.2.2.2.2.2.2.2.2.2.2.2.2.2.2.2.1
