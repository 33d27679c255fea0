theorem u_751 : Cond.constant RL 7 (2147483647) ∈ yU := yu 751 (by decide +kernel) (by decide +kernel)
theorem u_750 : Cond.code yL_below cL_below 2 (some .int) ∈ yU := yu 750 (by decide +kernel) (by decide +kernel)
theorem u_27 : Cond.initialized RL ∈ yU := yu 27 (by decide +kernel) (by decide +kernel)
theorem u_755 : Cond.constant RL 8 (790386105) ∈ yU := yu 755 (by decide +kernel) (by decide +kernel)
theorem u_754 : Cond.code yL_cell cL_cell 2 (some .int) ∈ yU := yu 754 (by decide +kernel) (by decide +kernel)
theorem u_748 : Cond.methodLink RL 18 yL_below ∈ yU := yu 748 (by decide +kernel) (by decide +kernel)
theorem u_749 : Cond.static yL_below ∈ yU := yu 749 (by decide +kernel) (by decide +kernel)
theorem u_761 : Cond.methodLink RL 72 yX6_shape ∈ yU := yu 761 (by decide +kernel) (by decide +kernel)
theorem u_762 : Cond.instanceMethod yX6_shape ∈ yU := yu 762 (by decide +kernel) (by decide +kernel)
theorem u_763 : Cond.selects RX6 yX6_shape yX6_shape ∈ yU := yu 763 (by decide +kernel) (by decide +kernel)
theorem u_775 : Cond.methodLink RL 75 yX6_left ∈ yU := yu 775 (by decide +kernel) (by decide +kernel)
theorem u_776 : Cond.instanceMethod yX6_left ∈ yU := yu 776 (by decide +kernel) (by decide +kernel)
theorem u_777 : Cond.selects RX6 yX6_left yX6_left ∈ yU := yu 777 (by decide +kernel) (by decide +kernel)
theorem u_784 : Cond.methodLink RL 78 yX6_top ∈ yU := yu 784 (by decide +kernel) (by decide +kernel)
theorem u_785 : Cond.instanceMethod yX6_top ∈ yU := yu 785 (by decide +kernel) (by decide +kernel)
theorem u_786 : Cond.selects RX6 yX6_top yX6_top ∈ yU := yu 786 (by decide +kernel) (by decide +kernel)
theorem u_789 : Cond.methodLink RL 81 yX6_kind ∈ yU := yu 789 (by decide +kernel) (by decide +kernel)
theorem u_790 : Cond.instanceMethod yX6_kind ∈ yU := yu 790 (by decide +kernel) (by decide +kernel)
theorem u_791 : Cond.selects RX6 yX6_kind yX6_kind ∈ yU := yu 791 (by decide +kernel) (by decide +kernel)
theorem u_794 : Cond.methodLink RL 84 yX6_checked ∈ yU := yu 794 (by decide +kernel) (by decide +kernel)
theorem u_795 : Cond.instanceMethod yX6_checked ∈ yU := yu 795 (by decide +kernel) (by decide +kernel)
theorem u_796 : Cond.selects RX6 yX6_checked yX6_checked ∈ yU := yu 796 (by decide +kernel) (by decide +kernel)
theorem u_799 : Cond.methodLink RL 88 yX6_broken ∈ yU := yu 799 (by decide +kernel) (by decide +kernel)
theorem u_800 : Cond.instanceMethod yX6_broken ∈ yU := yu 800 (by decide +kernel) (by decide +kernel)
theorem u_801 : Cond.selects RX6 yX6_broken yX6_broken ∈ yU := yu 801 (by decide +kernel) (by decide +kernel)
theorem u_758 : Cond.codeWith yL_act cL_act 4 none [(0, 212, 215, 92), (0, 212, 217, 94)] ∈ yU := yu 758 (by decide +kernel) (by decide +kernel)
theorem u_759 : Cond.classLink RL 92 "java/lang/IndexOutOfBoundsException" ∈ yU := yu 759 (by decide +kernel) (by decide +kernel)
theorem u_760 : Cond.classLink RL 94 "java/lang/IllegalStateException" ∈ yU := yu 760 (by decide +kernel) (by decide +kernel)
theorem dL_below_0 : decode cL_below 0 = .ok (.iload_n 0, 1) := by decide +kernel
theorem dL_below_1 : decode cL_below 1 = .ok (.ldc 7, 2) := by decide +kernel
theorem dL_below_3 : decode cL_below 3 = .ok (.iand, 1) := by decide +kernel
theorem dL_below_4 : decode cL_below 4 = .ok (.iload_n 1, 1) := by decide +kernel
theorem dL_below_5 : decode cL_below 5 = .ok (.irem, 1) := by decide +kernel
theorem dL_below_6 : decode cL_below 6 = .ok (.ireturn, 1) := by decide +kernel
def fL_below (i1 : Int32) (i2 : Int32) : Option (Int32) := (if ¬ i2 = 0 then some ((i1 &&& 2147483647) - (i1 &&& 2147483647) / i2 * i2) else none)
abbrev hL_below : Cond := .code yL_below cL_below 2 (some .int)
theorem mL_below : yM yL_below hL_below 2 := ⟨u_750, u_27, by decide +kernel, by decide +kernel, by decide +kernel⟩
set_option maxHeartbeats 4000000 in
set_option maxRecDepth 100000 in
theorem kL_below (l : Launch) (D : va_G) (cy : Nat → ClassId) (i1 : Int32) (i2 : Int32) {res : Int32} (hR : fL_below i1 i2 = some res) : YM l D cy yL_below hL_below 1 0 0 [.int i1, .int i2] [] (fun v u => v = some (.int res) ∧ u = []) := by
  unfold fL_below at hR
  refine YM.ofI (cc := cL_below) (maxL := 2) (ret := (some .int)) (by decide +kernel) rfl (Nat.le_of_ble_eq_true rfl) [(0, .int i1), (1, .int i2)] rfl rfl (fun p e s m args below meth c A H0 Q C hnm ret => ?_)
  refine xr_iload_n (n := 1) (j := 0) C dL_below_0 rfl rfl ?_
  refine xr_ldc (n := 3) (v := 2147483647) C u_751 dL_below_1 rfl ?_
  refine xr_iand (n := 4) C dL_below_3 rfl ?_
  refine xr_iload_n (n := 5) (j := 1) C dL_below_4 rfl rfl ?_
  obtain ⟨g_1, hR⟩ := yf_g hR
  refine xr_irem (n := 6) C dL_below_5 g_1 rfl ?_
  obtain rfl := Option.some.inj hR
  exact ret ((i1 &&& 2147483647) - (i1 &&& 2147483647) / i2 * i2) ⟨rfl, rfl⟩ (Nat.le_of_ble_eq_true rfl) (Nat.le_of_ble_eq_true rfl) dL_below_6
theorem dL_cell_0 : decode cL_cell 0 = .ok (.iload_n 1, 1) := by decide +kernel
theorem dL_cell_1 : decode cL_cell 1 = .ok (.aload_n 0, 1) := by decide +kernel
theorem dL_cell_2 : decode cL_cell 2 = .ok (.arraylength, 1) := by decide +kernel
theorem dL_cell_3 : decode cL_cell 3 = .ok (.if_icmp .ge 9, 3) := by decide +kernel
theorem dL_cell_6 : decode cL_cell 6 = .ok (.aload_n 0, 1) := by decide +kernel
theorem dL_cell_7 : decode cL_cell 7 = .ok (.iload_n 1, 1) := by decide +kernel
theorem dL_cell_8 : decode cL_cell 8 = .ok (.iaload, 1) := by decide +kernel
theorem dL_cell_9 : decode cL_cell 9 = .ok (.goto 9, 3) := by decide +kernel
theorem dL_cell_12 : decode cL_cell 12 = .ok (.ldc 8, 2) := by decide +kernel
theorem dL_cell_14 : decode cL_cell 14 = .ok (.iload_n 1, 1) := by decide +kernel
theorem dL_cell_15 : decode cL_cell 15 = .ok (.iconst 3, 1) := by decide +kernel
theorem dL_cell_16 : decode cL_cell 16 = .ok (.iadd, 1) := by decide +kernel
theorem dL_cell_17 : decode cL_cell 17 = .ok (.imul, 1) := by decide +kernel
theorem dL_cell_18 : decode cL_cell 18 = .ok (.ireturn, 1) := by decide +kernel
def fL_cell (nL : Nat) (xs : Nat → Int32) (i1 : Int32) : Option (Int32) := (if (nI nL) ≤ i1 then some (790386105 * (i1 + 3)) else (if ¬ (i1 < 0 ∨ nL ≤ i1.toNatClampNeg) then some (xs i1.toNatClampNeg) else none))
abbrev hL_cell : Cond := .code yL_cell cL_cell 2 (some .int)
theorem mL_cell : yM yL_cell hL_cell 2 := ⟨u_754, u_27, by decide +kernel, by decide +kernel, by decide +kernel⟩
set_option maxHeartbeats 4000000 in
set_option maxRecDepth 100000 in
theorem kL_cell (l : Launch) (D : va_G) (cy : Nat → ClassId) (b nL : Nat) (xs : Nat → Int32) {i1 : Int32} {res : Int32} (hR : fL_cell nL xs i1 = some res) : YScr l D cy yL_cell hL_cell 1 [.ref b, .int i1] b nL xs res := by
  unfold fL_cell at hR
  refine YScr.of (cc := cL_cell) (maxL := 2) (by decide +kernel) rfl (Nat.le_of_ble_eq_true rfl) (fun p e s m args below meth c A H0 Q C hX hbl hbA ret => ?_)
  refine xr_iload_n (n := 1) (j := 1) C dL_cell_0 rfl rfl ?_
  refine xr_aload_n (n := 2) (j := 0) C dL_cell_1 rfl rfl ?_
  refine xr_slen (n := 3) C hX hbl hbA dL_cell_2 rfl ?_
  refine xr_icmp_ge (tgt := 12) (n := 6) C dL_cell_3 rfl rfl (fun c_1 => ?_) (fun c_1 => ?_)
  · replace hR := yf_t c_1 hR
    refine xr_ldc (n := 14) (v := 790386105) C u_755 dL_cell_12 rfl ?_
    refine xr_iload_n (n := 15) (j := 1) C dL_cell_14 rfl rfl ?_
    refine xr_iconst (n := 16) (v := 3) C dL_cell_15 rfl rfl ?_
    refine xr_iadd (n := 17) C dL_cell_16 rfl ?_
    refine xr_imul (n := 18) C dL_cell_17 rfl ?_
    obtain rfl := Option.some.inj hR
    exact ret (Nat.le_of_ble_eq_true rfl) (Nat.le_of_ble_eq_true rfl) dL_cell_18
  · replace hR := yf_f c_1 hR
    refine xr_aload_n (n := 7) (j := 0) C dL_cell_6 rfl rfl ?_
    refine xr_iload_n (n := 8) (j := 1) C dL_cell_7 rfl rfl ?_
    obtain ⟨g_2, hR⟩ := yf_g hR
    refine xr_sld (n := 9) C hX hbl hbA g_2 dL_cell_8 rfl ?_
    refine xr_goto (tgt := 18) C dL_cell_9 rfl ?_
    obtain rfl := Option.some.inj hR
    exact ret (Nat.le_of_ble_eq_true rfl) (Nat.le_of_ble_eq_true rfl) dL_cell_18
theorem dL_act_0 : decode cL_act 0 = .ok (.iload_n 2, 1) := by decide +kernel
theorem dL_act_1 : decode cL_act 1 = .ok (.tableswitch 179 0 6 #[43, 79, 79, 112, 112, 145, 158], 43) := by decide +kernel
theorem dL_act_44 : decode cL_act 44 = .ok (.aload_n 0, 1) := by decide +kernel
theorem dL_act_45 : decode cL_act 45 = .ok (.iconst 1, 1) := by decide +kernel
theorem dL_act_46 : decode cL_act 46 = .ok (.iload_n 1, 1) := by decide +kernel
theorem dL_act_47 : decode cL_act 47 = .ok (.bipush 8, 2) := by decide +kernel
theorem dL_act_49 : decode cL_act 49 = .ok (.invokestatic 18, 3) := by decide +kernel
theorem dL_act_52 : decode cL_act 52 = .ok (.iadd, 1) := by decide +kernel
theorem dL_act_53 : decode cL_act 53 = .ok (.iconst 1, 1) := by decide +kernel
theorem dL_act_54 : decode cL_act 54 = .ok (.iload_n 1, 1) := by decide +kernel
theorem dL_act_55 : decode cL_act 55 = .ok (.iconst 3, 1) := by decide +kernel
theorem dL_act_56 : decode cL_act 56 = .ok (.ishr, 1) := by decide +kernel
theorem dL_act_57 : decode cL_act 57 = .ok (.bipush 6, 2) := by decide +kernel
theorem dL_act_59 : decode cL_act 59 = .ok (.invokestatic 18, 3) := by decide +kernel
theorem dL_act_62 : decode cL_act 62 = .ok (.iadd, 1) := by decide +kernel
theorem dL_act_63 : decode cL_act 63 = .ok (.iconst 1, 1) := by decide +kernel
theorem dL_act_64 : decode cL_act 64 = .ok (.iload_n 1, 1) := by decide +kernel
theorem dL_act_65 : decode cL_act 65 = .ok (.iconst 5, 1) := by decide +kernel
theorem dL_act_66 : decode cL_act 66 = .ok (.ishr, 1) := by decide +kernel
theorem dL_act_67 : decode cL_act 67 = .ok (.bipush 8, 2) := by decide +kernel
theorem dL_act_69 : decode cL_act 69 = .ok (.invokestatic 18, 3) := by decide +kernel
theorem dL_act_72 : decode cL_act 72 = .ok (.iadd, 1) := by decide +kernel
theorem dL_act_73 : decode cL_act 73 = .ok (.invokevirtual 72, 3) := by decide +kernel
theorem dL_act_76 : decode cL_act 76 = .ok (.pop, 1) := by decide +kernel
theorem dL_act_77 : decode cL_act 77 = .ok (.goto 135, 3) := by decide +kernel
theorem dL_act_80 : decode cL_act 80 = .ok (.aload_n 0, 1) := by decide +kernel
theorem dL_act_81 : decode cL_act 81 = .ok (.iload_n 1, 1) := by decide +kernel
theorem dL_act_82 : decode cL_act 82 = .ok (.bipush 8, 2) := by decide +kernel
theorem dL_act_84 : decode cL_act 84 = .ok (.invokestatic 18, 3) := by decide +kernel
theorem dL_act_87 : decode cL_act 87 = .ok (.iload_n 1, 1) := by decide +kernel
theorem dL_act_88 : decode cL_act 88 = .ok (.iconst 3, 1) := by decide +kernel
theorem dL_act_89 : decode cL_act 89 = .ok (.ishr, 1) := by decide +kernel
theorem dL_act_90 : decode cL_act 90 = .ok (.bipush 6, 2) := by decide +kernel
theorem dL_act_92 : decode cL_act 92 = .ok (.invokestatic 18, 3) := by decide +kernel
theorem dL_act_95 : decode cL_act 95 = .ok (.iload_n 1, 1) := by decide +kernel
theorem dL_act_96 : decode cL_act 96 = .ok (.iconst 5, 1) := by decide +kernel
theorem dL_act_97 : decode cL_act 97 = .ok (.ishr, 1) := by decide +kernel
theorem dL_act_98 : decode cL_act 98 = .ok (.bipush 19, 2) := by decide +kernel
theorem dL_act_100 : decode cL_act 100 = .ok (.invokestatic 18, 3) := by decide +kernel
theorem dL_act_103 : decode cL_act 103 = .ok (.bipush 9, 2) := by decide +kernel
theorem dL_act_105 : decode cL_act 105 = .ok (.isub, 1) := by decide +kernel
theorem dL_act_106 : decode cL_act 106 = .ok (.invokevirtual 75, 3) := by decide +kernel
theorem dL_act_109 : decode cL_act 109 = .ok (.pop, 1) := by decide +kernel
theorem dL_act_110 : decode cL_act 110 = .ok (.goto 102, 3) := by decide +kernel
theorem dL_act_113 : decode cL_act 113 = .ok (.aload_n 0, 1) := by decide +kernel
theorem dL_act_114 : decode cL_act 114 = .ok (.iload_n 1, 1) := by decide +kernel
theorem dL_act_115 : decode cL_act 115 = .ok (.bipush 6, 2) := by decide +kernel
theorem dL_act_117 : decode cL_act 117 = .ok (.invokestatic 18, 3) := by decide +kernel
theorem dL_act_120 : decode cL_act 120 = .ok (.iload_n 1, 1) := by decide +kernel
theorem dL_act_121 : decode cL_act 121 = .ok (.iconst 3, 1) := by decide +kernel
theorem dL_act_122 : decode cL_act 122 = .ok (.ishr, 1) := by decide +kernel
theorem dL_act_123 : decode cL_act 123 = .ok (.bipush 8, 2) := by decide +kernel
theorem dL_act_125 : decode cL_act 125 = .ok (.invokestatic 18, 3) := by decide +kernel
theorem dL_act_128 : decode cL_act 128 = .ok (.iload_n 1, 1) := by decide +kernel
theorem dL_act_129 : decode cL_act 129 = .ok (.iconst 5, 1) := by decide +kernel
theorem dL_act_130 : decode cL_act 130 = .ok (.ishr, 1) := by decide +kernel
theorem dL_act_131 : decode cL_act 131 = .ok (.bipush 19, 2) := by decide +kernel
theorem dL_act_133 : decode cL_act 133 = .ok (.invokestatic 18, 3) := by decide +kernel
theorem dL_act_136 : decode cL_act 136 = .ok (.bipush 9, 2) := by decide +kernel
theorem dL_act_138 : decode cL_act 138 = .ok (.isub, 1) := by decide +kernel
theorem dL_act_139 : decode cL_act 139 = .ok (.invokevirtual 78, 3) := by decide +kernel
theorem dL_act_142 : decode cL_act 142 = .ok (.pop, 1) := by decide +kernel
theorem dL_act_143 : decode cL_act 143 = .ok (.goto 69, 3) := by decide +kernel
theorem dL_act_146 : decode cL_act 146 = .ok (.aload_n 0, 1) := by decide +kernel
theorem dL_act_147 : decode cL_act 147 = .ok (.iload_n 1, 1) := by decide +kernel
theorem dL_act_148 : decode cL_act 148 = .ok (.iconst 3, 1) := by decide +kernel
theorem dL_act_149 : decode cL_act 149 = .ok (.invokestatic 18, 3) := by decide +kernel
theorem dL_act_152 : decode cL_act 152 = .ok (.invokevirtual 81, 3) := by decide +kernel
theorem dL_act_155 : decode cL_act 155 = .ok (.pop, 1) := by decide +kernel
theorem dL_act_156 : decode cL_act 156 = .ok (.goto 56, 3) := by decide +kernel
theorem dL_act_159 : decode cL_act 159 = .ok (.aload_n 0, 1) := by decide +kernel
theorem dL_act_160 : decode cL_act 160 = .ok (.iload_n 1, 1) := by decide +kernel
theorem dL_act_161 : decode cL_act 161 = .ok (.iconst 3, 1) := by decide +kernel
theorem dL_act_162 : decode cL_act 162 = .ok (.invokestatic 18, 3) := by decide +kernel
theorem dL_act_165 : decode cL_act 165 = .ok (.ifCond .le 7, 3) := by decide +kernel
theorem dL_act_168 : decode cL_act 168 = .ok (.iconst 1, 1) := by decide +kernel
theorem dL_act_169 : decode cL_act 169 = .ok (.goto 4, 3) := by decide +kernel
theorem dL_act_172 : decode cL_act 172 = .ok (.iconst 0, 1) := by decide +kernel
theorem dL_act_173 : decode cL_act 173 = .ok (.invokevirtual 84, 3) := by decide +kernel
theorem dL_act_176 : decode cL_act 176 = .ok (.pop, 1) := by decide +kernel
theorem dL_act_177 : decode cL_act 177 = .ok (.goto 35, 3) := by decide +kernel
theorem dL_act_180 : decode cL_act 180 = .ok (.aload_n 0, 1) := by decide +kernel
theorem dL_act_181 : decode cL_act 181 = .ok (.iload_n 1, 1) := by decide +kernel
theorem dL_act_182 : decode cL_act 182 = .ok (.iconst 5, 1) := by decide +kernel
theorem dL_act_183 : decode cL_act 183 = .ok (.invokestatic 18, 3) := by decide +kernel
theorem dL_act_186 : decode cL_act 186 = .ok (.iload_n 1, 1) := by decide +kernel
theorem dL_act_187 : decode cL_act 187 = .ok (.iconst 3, 1) := by decide +kernel
theorem dL_act_188 : decode cL_act 188 = .ok (.ishr, 1) := by decide +kernel
theorem dL_act_189 : decode cL_act 189 = .ok (.iconst 5, 1) := by decide +kernel
theorem dL_act_190 : decode cL_act 190 = .ok (.invokestatic 18, 3) := by decide +kernel
theorem dL_act_193 : decode cL_act 193 = .ok (.iload_n 1, 1) := by decide +kernel
theorem dL_act_194 : decode cL_act 194 = .ok (.iconst 5, 1) := by decide +kernel
theorem dL_act_195 : decode cL_act 195 = .ok (.ishr, 1) := by decide +kernel
theorem dL_act_196 : decode cL_act 196 = .ok (.iconst 3, 1) := by decide +kernel
theorem dL_act_197 : decode cL_act 197 = .ok (.invokestatic 18, 3) := by decide +kernel
theorem dL_act_200 : decode cL_act 200 = .ok (.ifCond .le 7, 3) := by decide +kernel
theorem dL_act_203 : decode cL_act 203 = .ok (.iconst 1, 1) := by decide +kernel
theorem dL_act_204 : decode cL_act 204 = .ok (.goto 4, 3) := by decide +kernel
theorem dL_act_207 : decode cL_act 207 = .ok (.iconst 0, 1) := by decide +kernel
theorem dL_act_208 : decode cL_act 208 = .ok (.invokevirtual 88, 3) := by decide +kernel
theorem dL_act_211 : decode cL_act 211 = .ok (.pop, 1) := by decide +kernel
theorem dL_act_212 : decode cL_act 212 = .ok (.goto 7, 3) := by decide +kernel
theorem dL_act_215 : decode cL_act 215 = .ok (.astore_n 3, 1) := by decide +kernel
theorem dL_act_216 : decode cL_act 216 = .ok (.return_, 1) := by decide +kernel
theorem dL_act_217 : decode cL_act 217 = .ok (.astore_n 3, 1) := by decide +kernel
theorem dL_act_218 : decode cL_act 218 = .ok (.return_, 1) := by decide +kernel
theorem dL_act_219 : decode cL_act 219 = .ok (.return_, 1) := by decide +kernel
def fL_act (xjr : Int32) (xjk : Int32) (xjc : Int32) (xjg : Int32) (xjs : Int32) (xjaf : Nat → Int32) (xjbf : Nat → Int32) (xwb : Int32) (xwk : Int32) (i1 : Int32) (i2 : Int32) : Option (Int32 × Int32 × Int32 × Int32 × Int32 × (Nat → Int32) × (Nat → Int32) × Int32 × Int32) := (if i2 = 0 then ((fL_below i1 8).bind fun x_2 => ((fL_below (i1 >>> ((3 : Int32) &&& 31)) 6).bind fun x_6 => ((fL_below (i1 >>> ((5 : Int32) &&& 31)) 8).bind fun x_10 => ((fX6_shape xjr xjk xjc xjaf xjbf (1 + x_2) (1 + x_6) (1 + x_10)).bind fun x_14 => ybr x_14 (fun w_20 => (if w_20 = 1 then some (xjr, xjk, xjc, xjg, xjs, xjaf, xjbf, xwb, xwk) else (if w_20 = 2 then some (xjr, xjk, xjc, xjg, xjs, xjaf, xjbf, xwb, xwk) else none))) (fun w_25 => some (w_25.2.1, w_25.2.2.1, w_25.2.2.2.1, xjg, xjs, w_25.2.2.2.2.1, w_25.2.2.2.2.2, xwb, xwk)))))) else (if i2 = 1 then ((fL_below i1 8).bind fun x_27 => ((fL_below (i1 >>> ((3 : Int32) &&& 31)) 6).bind fun x_31 => ((fL_below (i1 >>> ((5 : Int32) &&& 31)) 19).bind fun x_35 => ((fX6_left xjr xjk xjaf x_27 x_31 (x_35 - 9)).bind fun x_39 => ybr x_39 (fun w_45 => (if w_45 = 1 then some (xjr, xjk, xjc, xjg, xjs, xjaf, xjbf, xwb, xwk) else (if w_45 = 2 then some (xjr, xjk, xjc, xjg, xjs, xjaf, xjbf, xwb, xwk) else none))) (fun w_50 => some (xjr, xjk, xjc, xjg, xjs, w_50.2, xjbf, xwb, xwk)))))) else (if i2 = 2 then ((fL_below i1 8).bind fun x_52 => ((fL_below (i1 >>> ((3 : Int32) &&& 31)) 6).bind fun x_56 => ((fL_below (i1 >>> ((5 : Int32) &&& 31)) 19).bind fun x_60 => ((fX6_left xjr xjk xjaf x_52 x_56 (x_60 - 9)).bind fun x_64 => ybr x_64 (fun w_70 => (if w_70 = 1 then some (xjr, xjk, xjc, xjg, xjs, xjaf, xjbf, xwb, xwk) else (if w_70 = 2 then some (xjr, xjk, xjc, xjg, xjs, xjaf, xjbf, xwb, xwk) else none))) (fun w_75 => some (xjr, xjk, xjc, xjg, xjs, w_75.2, xjbf, xwb, xwk)))))) else (if i2 = 3 then ((fL_below i1 6).bind fun x_77 => ((fL_below (i1 >>> ((3 : Int32) &&& 31)) 8).bind fun x_81 => ((fL_below (i1 >>> ((5 : Int32) &&& 31)) 19).bind fun x_85 => ((fX6_top xjk xjc xjbf x_77 x_81 (x_85 - 9)).bind fun x_89 => ybr x_89 (fun w_95 => (if w_95 = 1 then some (xjr, xjk, xjc, xjg, xjs, xjaf, xjbf, xwb, xwk) else (if w_95 = 2 then some (xjr, xjk, xjc, xjg, xjs, xjaf, xjbf, xwb, xwk) else none))) (fun w_100 => some (xjr, xjk, xjc, xjg, xjs, xjaf, w_100.2, xwb, xwk)))))) else (if i2 = 4 then ((fL_below i1 6).bind fun x_102 => ((fL_below (i1 >>> ((3 : Int32) &&& 31)) 8).bind fun x_106 => ((fL_below (i1 >>> ((5 : Int32) &&& 31)) 19).bind fun x_110 => ((fX6_top xjk xjc xjbf x_102 x_106 (x_110 - 9)).bind fun x_114 => ybr x_114 (fun w_120 => (if w_120 = 1 then some (xjr, xjk, xjc, xjg, xjs, xjaf, xjbf, xwb, xwk) else (if w_120 = 2 then some (xjr, xjk, xjc, xjg, xjs, xjaf, xjbf, xwb, xwk) else none))) (fun w_125 => some (xjr, xjk, xjc, xjg, xjs, xjaf, w_125.2, xwb, xwk)))))) else (if i2 = 5 then ((fL_below i1 3).bind fun x_127 => ((fX6_kind xjg xjs x_127).bind fun x_131 => ybr x_131 (fun w_137 => (if w_137 = 1 then some (xjr, xjk, xjc, xjg, xjs, xjaf, xjbf, xwb, xwk) else (if w_137 = 2 then some (xjr, xjk, xjc, xjg, xjs, xjaf, xjbf, xwb, xwk) else none))) (fun w_142 => some (xjr, xjk, xjc, w_142.2.1, w_142.2.2, xjaf, xjbf, xwb, xwk)))) else (if i2 = 6 then ((fL_below i1 3).bind fun x_144 => ((((if x_144 ≤ 0 then some 0 else some 1) : Option (Int32))).bind fun r_149 => ((fX6_checked xjg xjs r_149).bind fun x_150 => ybr x_150 (fun w_156 => (if w_156 = 1 then some (xjr, xjk, xjc, xjg, xjs, xjaf, xjbf, xwb, xwk) else (if w_156 = 2 then some (xjr, xjk, xjc, xjg, xjs, xjaf, xjbf, xwb, xwk) else none))) (fun w_161 => some (xjr, xjk, xjc, xjg, w_161.2, xjaf, xjbf, xwb, xwk))))) else ((fL_below i1 5).bind fun x_165 => ((fL_below (i1 >>> ((3 : Int32) &&& 31)) 5).bind fun x_169 => ((fL_below (i1 >>> ((5 : Int32) &&& 31)) 3).bind fun x_173 => ((((if x_173 ≤ 0 then some 0 else some 1) : Option (Int32))).bind fun r_178 => ((fX6_broken xwb xwk x_165 x_169 r_178).bind fun x_179 => ybr x_179 (fun w_185 => (if w_185 = 1 then some (xjr, xjk, xjc, xjg, xjs, xjaf, xjbf, xwb, xwk) else (if w_185 = 2 then some (xjr, xjk, xjc, xjg, xjs, xjaf, xjbf, xwb, xwk) else none))) (fun w_190 => some (xjr, xjk, xjc, xjg, xjs, xjaf, xjbf, w_190.2.1, w_190.2.2))))))))))))))
abbrev hL_act : Cond := .codeWith yL_act cL_act 4 none [(0, 212, 215, 92), (0, 212, 217, 94)]
theorem mL_act : yM yL_act hL_act 3 := ⟨u_758, u_27, by decide +kernel, by decide +kernel, by decide +kernel⟩
theorem yc_L_act_1_73 : yCatch RL [(0, 212, 215, 92), (0, 212, 217, 94)] 73 (yE 1) 215 := ⟨(tableOf [(0, 212, 215, 92), (0, 212, 217, 94)]).take 0, (tableOf [(0, 212, 215, 92), (0, 212, 217, 94)])[0]'(by decide +kernel), (tableOf [(0, 212, 215, 92), (0, 212, 217, 94)]).drop 1, "java/lang/IndexOutOfBoundsException", by rfl, fun z hz => absurd hz List.not_mem_nil, by decide +kernel, by decide +kernel, u_759, by decide +kernel, by rfl⟩
theorem yc_L_act_2_73 : yCatch RL [(0, 212, 215, 92), (0, 212, 217, 94)] 73 (yE 2) 217 := ⟨(tableOf [(0, 212, 215, 92), (0, 212, 217, 94)]).take 1, (tableOf [(0, 212, 215, 92), (0, 212, 217, 94)])[1]'(by decide +kernel), (tableOf [(0, 212, 215, 92), (0, 212, 217, 94)]).drop 2, "java/lang/IllegalStateException", by rfl, fun z hz => by
    rw [List.mem_singleton.mp hz]
    exact Or.inr ⟨by decide +kernel, "java/lang/IndexOutOfBoundsException", u_759, by decide +kernel⟩, by decide +kernel, by decide +kernel, u_760, by decide +kernel, by rfl⟩
theorem yc_L_act_1_106 : yCatch RL [(0, 212, 215, 92), (0, 212, 217, 94)] 106 (yE 1) 215 := ⟨(tableOf [(0, 212, 215, 92), (0, 212, 217, 94)]).take 0, (tableOf [(0, 212, 215, 92), (0, 212, 217, 94)])[0]'(by decide +kernel), (tableOf [(0, 212, 215, 92), (0, 212, 217, 94)]).drop 1, "java/lang/IndexOutOfBoundsException", by rfl, fun z hz => absurd hz List.not_mem_nil, by decide +kernel, by decide +kernel, u_759, by decide +kernel, by rfl⟩
theorem yc_L_act_2_106 : yCatch RL [(0, 212, 215, 92), (0, 212, 217, 94)] 106 (yE 2) 217 := ⟨(tableOf [(0, 212, 215, 92), (0, 212, 217, 94)]).take 1, (tableOf [(0, 212, 215, 92), (0, 212, 217, 94)])[1]'(by decide +kernel), (tableOf [(0, 212, 215, 92), (0, 212, 217, 94)]).drop 2, "java/lang/IllegalStateException", by rfl, fun z hz => by
    rw [List.mem_singleton.mp hz]
    exact Or.inr ⟨by decide +kernel, "java/lang/IndexOutOfBoundsException", u_759, by decide +kernel⟩, by decide +kernel, by decide +kernel, u_760, by decide +kernel, by rfl⟩
theorem yc_L_act_1_139 : yCatch RL [(0, 212, 215, 92), (0, 212, 217, 94)] 139 (yE 1) 215 := ⟨(tableOf [(0, 212, 215, 92), (0, 212, 217, 94)]).take 0, (tableOf [(0, 212, 215, 92), (0, 212, 217, 94)])[0]'(by decide +kernel), (tableOf [(0, 212, 215, 92), (0, 212, 217, 94)]).drop 1, "java/lang/IndexOutOfBoundsException", by rfl, fun z hz => absurd hz List.not_mem_nil, by decide +kernel, by decide +kernel, u_759, by decide +kernel, by rfl⟩
theorem yc_L_act_2_139 : yCatch RL [(0, 212, 215, 92), (0, 212, 217, 94)] 139 (yE 2) 217 := ⟨(tableOf [(0, 212, 215, 92), (0, 212, 217, 94)]).take 1, (tableOf [(0, 212, 215, 92), (0, 212, 217, 94)])[1]'(by decide +kernel), (tableOf [(0, 212, 215, 92), (0, 212, 217, 94)]).drop 2, "java/lang/IllegalStateException", by rfl, fun z hz => by
    rw [List.mem_singleton.mp hz]
    exact Or.inr ⟨by decide +kernel, "java/lang/IndexOutOfBoundsException", u_759, by decide +kernel⟩, by decide +kernel, by decide +kernel, u_760, by decide +kernel, by rfl⟩
theorem yc_L_act_1_152 : yCatch RL [(0, 212, 215, 92), (0, 212, 217, 94)] 152 (yE 1) 215 := ⟨(tableOf [(0, 212, 215, 92), (0, 212, 217, 94)]).take 0, (tableOf [(0, 212, 215, 92), (0, 212, 217, 94)])[0]'(by decide +kernel), (tableOf [(0, 212, 215, 92), (0, 212, 217, 94)]).drop 1, "java/lang/IndexOutOfBoundsException", by rfl, fun z hz => absurd hz List.not_mem_nil, by decide +kernel, by decide +kernel, u_759, by decide +kernel, by rfl⟩
theorem yc_L_act_2_152 : yCatch RL [(0, 212, 215, 92), (0, 212, 217, 94)] 152 (yE 2) 217 := ⟨(tableOf [(0, 212, 215, 92), (0, 212, 217, 94)]).take 1, (tableOf [(0, 212, 215, 92), (0, 212, 217, 94)])[1]'(by decide +kernel), (tableOf [(0, 212, 215, 92), (0, 212, 217, 94)]).drop 2, "java/lang/IllegalStateException", by rfl, fun z hz => by
    rw [List.mem_singleton.mp hz]
    exact Or.inr ⟨by decide +kernel, "java/lang/IndexOutOfBoundsException", u_759, by decide +kernel⟩, by decide +kernel, by decide +kernel, u_760, by decide +kernel, by rfl⟩
theorem yc_L_act_1_173 : yCatch RL [(0, 212, 215, 92), (0, 212, 217, 94)] 173 (yE 1) 215 := ⟨(tableOf [(0, 212, 215, 92), (0, 212, 217, 94)]).take 0, (tableOf [(0, 212, 215, 92), (0, 212, 217, 94)])[0]'(by decide +kernel), (tableOf [(0, 212, 215, 92), (0, 212, 217, 94)]).drop 1, "java/lang/IndexOutOfBoundsException", by rfl, fun z hz => absurd hz List.not_mem_nil, by decide +kernel, by decide +kernel, u_759, by decide +kernel, by rfl⟩
theorem yc_L_act_2_173 : yCatch RL [(0, 212, 215, 92), (0, 212, 217, 94)] 173 (yE 2) 217 := ⟨(tableOf [(0, 212, 215, 92), (0, 212, 217, 94)]).take 1, (tableOf [(0, 212, 215, 92), (0, 212, 217, 94)])[1]'(by decide +kernel), (tableOf [(0, 212, 215, 92), (0, 212, 217, 94)]).drop 2, "java/lang/IllegalStateException", by rfl, fun z hz => by
    rw [List.mem_singleton.mp hz]
    exact Or.inr ⟨by decide +kernel, "java/lang/IndexOutOfBoundsException", u_759, by decide +kernel⟩, by decide +kernel, by decide +kernel, u_760, by decide +kernel, by rfl⟩
theorem yc_L_act_1_208 : yCatch RL [(0, 212, 215, 92), (0, 212, 217, 94)] 208 (yE 1) 215 := ⟨(tableOf [(0, 212, 215, 92), (0, 212, 217, 94)]).take 0, (tableOf [(0, 212, 215, 92), (0, 212, 217, 94)])[0]'(by decide +kernel), (tableOf [(0, 212, 215, 92), (0, 212, 217, 94)]).drop 1, "java/lang/IndexOutOfBoundsException", by rfl, fun z hz => absurd hz List.not_mem_nil, by decide +kernel, by decide +kernel, u_759, by decide +kernel, by rfl⟩
theorem yc_L_act_2_208 : yCatch RL [(0, 212, 215, 92), (0, 212, 217, 94)] 208 (yE 2) 217 := ⟨(tableOf [(0, 212, 215, 92), (0, 212, 217, 94)]).take 1, (tableOf [(0, 212, 215, 92), (0, 212, 217, 94)])[1]'(by decide +kernel), (tableOf [(0, 212, 215, 92), (0, 212, 217, 94)]).drop 2, "java/lang/IllegalStateException", by rfl, fun z hz => by
    rw [List.mem_singleton.mp hz]
    exact Or.inr ⟨by decide +kernel, "java/lang/IndexOutOfBoundsException", u_759, by decide +kernel⟩, by decide +kernel, by decide +kernel, u_760, by decide +kernel, by rfl⟩
set_option maxHeartbeats 4000000 in
set_option maxRecDepth 100000 in
theorem kL_act (l : Launch) (D : va_G) (cy : Nat → ClassId) (hl0 : l.stackTraces = false) (x : Nat) (xj : Nat) (xw : Nat) (xz : Nat) (xo : Nat) (xy : Nat) (xt : Nat) (xja : Nat) (xjb : Nat) (xjr : Int32) (xjk : Int32) (xjc : Int32) (xjg : Int32) (xjs : Int32) (xjan : Nat) (xjaf : Nat → Int32) (xjbn : Nat) (xjbf : Nat → Int32) (xwu : Nat) (xwm : Nat) (xwb : Int32) (xwk : Int32) (i1 : Int32) (i2 : Int32) {res : Int32 × Int32 × Int32 × Int32 × Int32 × (Nat → Int32) × (Nat → Int32) × Int32 × Int32} (hR : fL_act xjr xjk xjc xjg xjs xjaf xjbf xwb xwk i1 i2 = some res) : YM l D cy yL_act hL_act 7 1 6 [.ref x, .int i1, .int i2] [[(x, .inr (6, [.ref xj, .ref xw, .ref xz, .ref xo, .ref xy, .ref xt]))], [(xj, .inr (1, [.ref xja, .ref xjb, .int xjr, .int xjk, .int xjc, .int xjg, .int xjs]))], [(xja, .inr (4, [.ref xjan]))], [(xjan, .inl (cy 1, 81, .inl xjaf))], [(xjb, .inr (4, [.ref xjbn]))], [(xjbn, .inl (cy 1, 81, .inl xjbf))], [(xw, .inr (0, [.ref xwu, .ref xwm, .int xwb, .int xwk]))]] (fun v u => v = none ∧ u = [[(x, .inr (6, [.ref xj, .ref xw, .ref xz, .ref xo, .ref xy, .ref xt]))], [(xj, .inr (1, [.ref xja, .ref xjb, .int res.1, .int res.2.1, .int res.2.2.1, .int res.2.2.2.1, .int res.2.2.2.2.1]))], [(xja, .inr (4, [.ref xjan]))], [(xjan, .inl (cy 1, 81, .inl res.2.2.2.2.2.1))], [(xjb, .inr (4, [.ref xjbn]))], [(xjbn, .inl (cy 1, 81, .inl res.2.2.2.2.2.2.1))], [(xw, .inr (0, [.ref xwu, .ref xwm, .int res.2.2.2.2.2.2.2.1, .int res.2.2.2.2.2.2.2.2]))]]) := by
  unfold fL_act at hR
  refine YM.ofVW (cc := cL_act) (maxL := 4) (hh := [(0, 212, 215, 92), (0, 212, 217, 94)]) (by decide +kernel) rfl (Nat.le_of_ble_eq_true rfl) [(0, .ref x), (1, .int i1), (2, .int i2)] rfl  (fun p e s m args below meth c A H0 Q C htab ret => ?_)
  refine xr_iload_n (n := 1) (j := 2) C dL_act_0 rfl rfl ?_
  by_cases c_1 : i2 = 0
  · replace hR := yf_t c_1 hR
    refine xr_tableIn (off := 43) (tgt := 44) C dL_act_1 (by rw [c_1]; decide) (by rw [c_1]; decide) (by rw [c_1]; decide) rfl ?_
    refine xr_aload_n (n := 45) (j := 0) C dL_act_44 rfl rfl ?_
    refine xr_iconst (n := 46) (v := 1) C dL_act_45 rfl rfl ?_
    refine xr_iload_n (n := 47) (j := 1) C dL_act_46 rfl rfl ?_
    refine xr_bipush (n := 49) (v := 8) C dL_act_47 rfl rfl ?_
    obtain ⟨x_2, hx_2, hR⟩ := yf_b hR
    refine xr_callSp (n := 52) (As := [.int i1, .int 8]) (rest := [.int 1, .ref x]) C (kL_below l D cy (i1 := i1) (i2 := 8) hx_2) mL_below u_748 u_749 7 [] [0, 1, 2, 3, 4, 5, 6] rfl (by decide +kernel) rfl rfl rfl rfl (Nat.le_of_ble_eq_true rfl) (Nat.le_of_ble_eq_true rfl) (Nat.le_of_ble_eq_true rfl) (Nat.le_of_ble_eq_true rfl) (Nat.le_of_ble_eq_true rfl) dL_act_49 rfl (fun _ _ hp => hp.2) (fun v_3 hp_5 => ?_)
    obtain ⟨rfl, -⟩ := hp_5
    refine xr_st (st' := [.int x_2, .int 1, .ref x]) rfl ?_
    refine xr_iadd (n := 53) C dL_act_52 rfl ?_
    refine xr_iconst (n := 54) (v := 1) C dL_act_53 rfl rfl ?_
    refine xr_iload_n (n := 55) (j := 1) C dL_act_54 rfl rfl ?_
    refine xr_iconst (n := 56) (v := 3) C dL_act_55 rfl rfl ?_
    refine xr_ishr (n := 57) C dL_act_56 rfl ?_
    refine xr_bipush (n := 59) (v := 6) C dL_act_57 rfl rfl ?_
    obtain ⟨x_6, hx_6, hR⟩ := yf_b hR
    refine xr_callSp (n := 62) (As := [.int (i1 >>> ((3 : Int32) &&& 31)), .int 6]) (rest := [.int 1, .int (1 + x_2), .ref x]) C (kL_below l D cy (i1 := i1 >>> ((3 : Int32) &&& 31)) (i2 := 6) hx_6) mL_below u_748 u_749 7 [] [0, 1, 2, 3, 4, 5, 6] rfl (by decide +kernel) rfl rfl rfl rfl (Nat.le_of_ble_eq_true rfl) (Nat.le_of_ble_eq_true rfl) (Nat.le_of_ble_eq_true rfl) (Nat.le_of_ble_eq_true rfl) (Nat.le_of_ble_eq_true rfl) dL_act_59 rfl (fun _ _ hp => hp.2) (fun v_7 hp_9 => ?_)
    obtain ⟨rfl, -⟩ := hp_9
    refine xr_st (st' := [.int x_6, .int 1, .int (1 + x_2), .ref x]) rfl ?_
    refine xr_iadd (n := 63) C dL_act_62 rfl ?_
    refine xr_iconst (n := 64) (v := 1) C dL_act_63 rfl rfl ?_
    refine xr_iload_n (n := 65) (j := 1) C dL_act_64 rfl rfl ?_
    refine xr_iconst (n := 66) (v := 5) C dL_act_65 rfl rfl ?_
    refine xr_ishr (n := 67) C dL_act_66 rfl ?_
    refine xr_bipush (n := 69) (v := 8) C dL_act_67 rfl rfl ?_
    obtain ⟨x_10, hx_10, hR⟩ := yf_b hR
    refine xr_callSp (n := 72) (As := [.int (i1 >>> ((5 : Int32) &&& 31)), .int 8]) (rest := [.int 1, .int (1 + x_6), .int (1 + x_2), .ref x]) C (kL_below l D cy (i1 := i1 >>> ((5 : Int32) &&& 31)) (i2 := 8) hx_10) mL_below u_748 u_749 7 [] [0, 1, 2, 3, 4, 5, 6] rfl (by decide +kernel) rfl rfl rfl rfl (Nat.le_of_ble_eq_true rfl) (Nat.le_of_ble_eq_true rfl) (Nat.le_of_ble_eq_true rfl) (Nat.le_of_ble_eq_true rfl) (Nat.le_of_ble_eq_true rfl) dL_act_69 rfl (fun _ _ hp => hp.2) (fun v_11 hp_13 => ?_)
    obtain ⟨rfl, -⟩ := hp_13
    refine xr_st (st' := [.int x_10, .int 1, .int (1 + x_6), .int (1 + x_2), .ref x]) rfl ?_
    refine xr_iadd (n := 73) C dL_act_72 rfl ?_
    obtain ⟨x_14, hx_14, hR⟩ := yf_b hR
    refine xr_callVX (n := 76) (As := [.int (1 + x_2), .int (1 + x_6), .int (1 + x_10)]) (rest := []) C htab (kX6_shape l D cy hl0 (x := x) (xj := xj) (xw := xw) (xz := xz) (xo := xo) (xy := xy) (xt := xt) (xja := xja) (xjb := xjb) (xjr := xjr) (xjk := xjk) (xjc := xjc) (xjg := xjg) (xjs := xjs) (xjan := xjan) (xjaf := xjaf) (xjbn := xjbn) (xjbf := xjbf) (i1 := 1 + x_2) (i2 := 1 + x_6) (i3 := 1 + x_10) hx_14) mX6_shape u_761 u_762 u_763 0 rfl rfl 7 [0, 1, 2, 3, 4, 5] [6] rfl (by decide +kernel) rfl rfl rfl rfl (Nat.le_of_ble_eq_true rfl) (Nat.le_of_ble_eq_true rfl) (Nat.le_of_ble_eq_true rfl) (Nat.le_of_ble_eq_true rfl) (Nat.le_of_ble_eq_true rfl) dL_act_73 rfl (fun E_ u_18 hp_19 => ?_) (fun v_15 u_16 hp_17 => ?_)
    · obtain ⟨w_20, ew_20, rfl, rfl⟩ := hp_19
      subst ew_20
      replace hR := ybr_l hR
      by_cases c_21 : w_20 = 1
      · replace hR := yf_t c_21 hR
        refine ⟨215, by rw [c_21]; exact yc_L_act_1_73, fun q_22 => ?_⟩
        refine xr_perm C 7 [0, 1, 2, 3, 4, 5, 6] [] [[(x, .inr (6, [.ref xj, .ref xw, .ref xz, .ref xo, .ref xy, .ref xt]))], [(xj, .inr (1, [.ref xja, .ref xjb, .int xjr, .int xjk, .int xjc, .int xjg, .int xjs]))], [(xja, .inr (4, [.ref xjan]))], [(xjan, .inl (cy 1, 81, .inl xjaf))], [(xjb, .inr (4, [.ref xjbn]))], [(xjbn, .inl (cy 1, 81, .inl xjbf))], [(xw, .inr (0, [.ref xwu, .ref xwm, .int xwb, .int xwk]))]] rfl (by decide +kernel) rfl ?_
        refine xr_astore_n (n := 216) C [(3, .ref q_22), (0, .ref x), (1, .int i1), (2, .int i2)] dL_act_215 (by decide) rfl rfl ?_
        obtain rfl := Option.some.inj hR
        exact ret ⟨rfl, rfl⟩ (Nat.le_of_ble_eq_true rfl) (Nat.le_of_ble_eq_true rfl) dL_act_216
      replace hR := yf_f c_21 hR
      by_cases c_23 : w_20 = 2
      · replace hR := yf_t c_23 hR
        refine ⟨217, by rw [c_23]; exact yc_L_act_2_73, fun q_24 => ?_⟩
        refine xr_perm C 7 [0, 1, 2, 3, 4, 5, 6] [] [[(x, .inr (6, [.ref xj, .ref xw, .ref xz, .ref xo, .ref xy, .ref xt]))], [(xj, .inr (1, [.ref xja, .ref xjb, .int xjr, .int xjk, .int xjc, .int xjg, .int xjs]))], [(xja, .inr (4, [.ref xjan]))], [(xjan, .inl (cy 1, 81, .inl xjaf))], [(xjb, .inr (4, [.ref xjbn]))], [(xjbn, .inl (cy 1, 81, .inl xjbf))], [(xw, .inr (0, [.ref xwu, .ref xwm, .int xwb, .int xwk]))]] rfl (by decide +kernel) rfl ?_
        refine xr_astore_n (n := 218) C [(3, .ref q_24), (0, .ref x), (1, .int i1), (2, .int i2)] dL_act_217 (by decide) rfl rfl ?_
        obtain rfl := Option.some.inj hR
        exact ret ⟨rfl, rfl⟩ (Nat.le_of_ble_eq_true rfl) (Nat.le_of_ble_eq_true rfl) dL_act_218
      replace hR := yf_f c_23 hR
      cases hR
    · obtain ⟨w_25, ew_25, rfl, rfl⟩ := hp_17
      subst ew_25
      replace hR := ybr_r hR
      refine xr_perm C 7 [0, 1, 2, 3, 4, 5, 6] [] [[(x, .inr (6, [.ref xj, .ref xw, .ref xz, .ref xo, .ref xy, .ref xt]))], [(xj, .inr (1, [.ref xja, .ref xjb, .int w_25.2.1, .int w_25.2.2.1, .int w_25.2.2.2.1, .int xjg, .int xjs]))], [(xja, .inr (4, [.ref xjan]))], [(xjan, .inl (cy 1, 81, .inl w_25.2.2.2.2.1))], [(xjb, .inr (4, [.ref xjbn]))], [(xjbn, .inl (cy 1, 81, .inl w_25.2.2.2.2.2))], [(xw, .inr (0, [.ref xwu, .ref xwm, .int xwb, .int xwk]))]] rfl (by decide +kernel) rfl ?_
      refine xr_st (st' := [.int w_25.1]) rfl ?_
      refine xr_pop (n := 77) C dL_act_76 rfl rfl ?_
      refine xr_goto (tgt := 212) C dL_act_77 rfl ?_
      refine xr_goto (tgt := 219) C dL_act_212 rfl ?_
      obtain rfl := Option.some.inj hR
      exact ret ⟨rfl, rfl⟩ (Nat.le_of_ble_eq_true rfl) (Nat.le_of_ble_eq_true rfl) dL_act_219
  replace hR := yf_f c_1 hR
  by_cases c_26 : i2 = 1
  · replace hR := yf_t c_26 hR
    refine xr_tableIn (off := 79) (tgt := 80) C dL_act_1 (by rw [c_26]; decide) (by rw [c_26]; decide) (by rw [c_26]; decide) rfl ?_
    refine xr_aload_n (n := 81) (j := 0) C dL_act_80 rfl rfl ?_
    refine xr_iload_n (n := 82) (j := 1) C dL_act_81 rfl rfl ?_
    refine xr_bipush (n := 84) (v := 8) C dL_act_82 rfl rfl ?_
    obtain ⟨x_27, hx_27, hR⟩ := yf_b hR
    refine xr_callSp (n := 87) (As := [.int i1, .int 8]) (rest := [.ref x]) C (kL_below l D cy (i1 := i1) (i2 := 8) hx_27) mL_below u_748 u_749 7 [] [0, 1, 2, 3, 4, 5, 6] rfl (by decide +kernel) rfl rfl rfl rfl (Nat.le_of_ble_eq_true rfl) (Nat.le_of_ble_eq_true rfl) (Nat.le_of_ble_eq_true rfl) (Nat.le_of_ble_eq_true rfl) (Nat.le_of_ble_eq_true rfl) dL_act_84 rfl (fun _ _ hp => hp.2) (fun v_28 hp_30 => ?_)
    obtain ⟨rfl, -⟩ := hp_30
    refine xr_st (st' := [.int x_27, .ref x]) rfl ?_
    refine xr_iload_n (n := 88) (j := 1) C dL_act_87 rfl rfl ?_
    refine xr_iconst (n := 89) (v := 3) C dL_act_88 rfl rfl ?_
    refine xr_ishr (n := 90) C dL_act_89 rfl ?_
    refine xr_bipush (n := 92) (v := 6) C dL_act_90 rfl rfl ?_
    obtain ⟨x_31, hx_31, hR⟩ := yf_b hR
    refine xr_callSp (n := 95) (As := [.int (i1 >>> ((3 : Int32) &&& 31)), .int 6]) (rest := [.int x_27, .ref x]) C (kL_below l D cy (i1 := i1 >>> ((3 : Int32) &&& 31)) (i2 := 6) hx_31) mL_below u_748 u_749 7 [] [0, 1, 2, 3, 4, 5, 6] rfl (by decide +kernel) rfl rfl rfl rfl (Nat.le_of_ble_eq_true rfl) (Nat.le_of_ble_eq_true rfl) (Nat.le_of_ble_eq_true rfl) (Nat.le_of_ble_eq_true rfl) (Nat.le_of_ble_eq_true rfl) dL_act_92 rfl (fun _ _ hp => hp.2) (fun v_32 hp_34 => ?_)
    obtain ⟨rfl, -⟩ := hp_34
    refine xr_st (st' := [.int x_31, .int x_27, .ref x]) rfl ?_
    refine xr_iload_n (n := 96) (j := 1) C dL_act_95 rfl rfl ?_
    refine xr_iconst (n := 97) (v := 5) C dL_act_96 rfl rfl ?_
    refine xr_ishr (n := 98) C dL_act_97 rfl ?_
    refine xr_bipush (n := 100) (v := 19) C dL_act_98 rfl rfl ?_
    obtain ⟨x_35, hx_35, hR⟩ := yf_b hR
    refine xr_callSp (n := 103) (As := [.int (i1 >>> ((5 : Int32) &&& 31)), .int 19]) (rest := [.int x_31, .int x_27, .ref x]) C (kL_below l D cy (i1 := i1 >>> ((5 : Int32) &&& 31)) (i2 := 19) hx_35) mL_below u_748 u_749 7 [] [0, 1, 2, 3, 4, 5, 6] rfl (by decide +kernel) rfl rfl rfl rfl (Nat.le_of_ble_eq_true rfl) (Nat.le_of_ble_eq_true rfl) (Nat.le_of_ble_eq_true rfl) (Nat.le_of_ble_eq_true rfl) (Nat.le_of_ble_eq_true rfl) dL_act_100 rfl (fun _ _ hp => hp.2) (fun v_36 hp_38 => ?_)
    obtain ⟨rfl, -⟩ := hp_38
    refine xr_st (st' := [.int x_35, .int x_31, .int x_27, .ref x]) rfl ?_
    refine xr_bipush (n := 105) (v := 9) C dL_act_103 rfl rfl ?_
    refine xr_isub (n := 106) C dL_act_105 rfl ?_
    obtain ⟨x_39, hx_39, hR⟩ := yf_b hR
    refine xr_callVX (n := 109) (As := [.int x_27, .int x_31, .int (x_35 - 9)]) (rest := []) C htab (kX6_left l D cy hl0 (x := x) (xj := xj) (xw := xw) (xz := xz) (xo := xo) (xy := xy) (xt := xt) (xja := xja) (xjb := xjb) (xjr := xjr) (xjk := xjk) (xjc := xjc) (xjg := xjg) (xjs := xjs) (xjan := xjan) (xjaf := xjaf) (i1 := x_27) (i2 := x_31) (i3 := x_35 - 9) hx_39) mX6_left u_775 u_776 u_777 0 rfl rfl 7 [0, 1, 2, 3] [4, 5, 6] rfl (by decide +kernel) rfl rfl rfl rfl (Nat.le_of_ble_eq_true rfl) (Nat.le_of_ble_eq_true rfl) (Nat.le_of_ble_eq_true rfl) (Nat.le_of_ble_eq_true rfl) (Nat.le_of_ble_eq_true rfl) dL_act_106 rfl (fun E_ u_43 hp_44 => ?_) (fun v_40 u_41 hp_42 => ?_)
    · obtain ⟨w_45, ew_45, rfl, rfl⟩ := hp_44
      subst ew_45
      replace hR := ybr_l hR
      by_cases c_46 : w_45 = 1
      · replace hR := yf_t c_46 hR
        refine ⟨215, by rw [c_46]; exact yc_L_act_1_106, fun q_47 => ?_⟩
        refine xr_perm C 7 [0, 1, 2, 3, 4, 5, 6] [] [[(x, .inr (6, [.ref xj, .ref xw, .ref xz, .ref xo, .ref xy, .ref xt]))], [(xj, .inr (1, [.ref xja, .ref xjb, .int xjr, .int xjk, .int xjc, .int xjg, .int xjs]))], [(xja, .inr (4, [.ref xjan]))], [(xjan, .inl (cy 1, 81, .inl xjaf))], [(xjb, .inr (4, [.ref xjbn]))], [(xjbn, .inl (cy 1, 81, .inl xjbf))], [(xw, .inr (0, [.ref xwu, .ref xwm, .int xwb, .int xwk]))]] rfl (by decide +kernel) rfl ?_
        refine xr_astore_n (n := 216) C [(3, .ref q_47), (0, .ref x), (1, .int i1), (2, .int i2)] dL_act_215 (by decide) rfl rfl ?_
        obtain rfl := Option.some.inj hR
        exact ret ⟨rfl, rfl⟩ (Nat.le_of_ble_eq_true rfl) (Nat.le_of_ble_eq_true rfl) dL_act_216
      replace hR := yf_f c_46 hR
      by_cases c_48 : w_45 = 2
      · replace hR := yf_t c_48 hR
        refine ⟨217, by rw [c_48]; exact yc_L_act_2_106, fun q_49 => ?_⟩
        refine xr_perm C 7 [0, 1, 2, 3, 4, 5, 6] [] [[(x, .inr (6, [.ref xj, .ref xw, .ref xz, .ref xo, .ref xy, .ref xt]))], [(xj, .inr (1, [.ref xja, .ref xjb, .int xjr, .int xjk, .int xjc, .int xjg, .int xjs]))], [(xja, .inr (4, [.ref xjan]))], [(xjan, .inl (cy 1, 81, .inl xjaf))], [(xjb, .inr (4, [.ref xjbn]))], [(xjbn, .inl (cy 1, 81, .inl xjbf))], [(xw, .inr (0, [.ref xwu, .ref xwm, .int xwb, .int xwk]))]] rfl (by decide +kernel) rfl ?_
        refine xr_astore_n (n := 218) C [(3, .ref q_49), (0, .ref x), (1, .int i1), (2, .int i2)] dL_act_217 (by decide) rfl rfl ?_
        obtain rfl := Option.some.inj hR
        exact ret ⟨rfl, rfl⟩ (Nat.le_of_ble_eq_true rfl) (Nat.le_of_ble_eq_true rfl) dL_act_218
      replace hR := yf_f c_48 hR
      cases hR
    · obtain ⟨w_50, ew_50, rfl, rfl⟩ := hp_42
      subst ew_50
      replace hR := ybr_r hR
      refine xr_perm C 7 [0, 1, 2, 3, 4, 5, 6] [] [[(x, .inr (6, [.ref xj, .ref xw, .ref xz, .ref xo, .ref xy, .ref xt]))], [(xj, .inr (1, [.ref xja, .ref xjb, .int xjr, .int xjk, .int xjc, .int xjg, .int xjs]))], [(xja, .inr (4, [.ref xjan]))], [(xjan, .inl (cy 1, 81, .inl w_50.2))], [(xjb, .inr (4, [.ref xjbn]))], [(xjbn, .inl (cy 1, 81, .inl xjbf))], [(xw, .inr (0, [.ref xwu, .ref xwm, .int xwb, .int xwk]))]] rfl (by decide +kernel) rfl ?_
      refine xr_st (st' := [.int w_50.1]) rfl ?_
      refine xr_pop (n := 110) C dL_act_109 rfl rfl ?_
      refine xr_goto (tgt := 212) C dL_act_110 rfl ?_
      refine xr_goto (tgt := 219) C dL_act_212 rfl ?_
      obtain rfl := Option.some.inj hR
      exact ret ⟨rfl, rfl⟩ (Nat.le_of_ble_eq_true rfl) (Nat.le_of_ble_eq_true rfl) dL_act_219
  replace hR := yf_f c_26 hR
  by_cases c_51 : i2 = 2
  · replace hR := yf_t c_51 hR
    refine xr_tableIn (off := 79) (tgt := 80) C dL_act_1 (by rw [c_51]; decide) (by rw [c_51]; decide) (by rw [c_51]; decide) rfl ?_
    refine xr_aload_n (n := 81) (j := 0) C dL_act_80 rfl rfl ?_
    refine xr_iload_n (n := 82) (j := 1) C dL_act_81 rfl rfl ?_
    refine xr_bipush (n := 84) (v := 8) C dL_act_82 rfl rfl ?_
    obtain ⟨x_52, hx_52, hR⟩ := yf_b hR
    refine xr_callSp (n := 87) (As := [.int i1, .int 8]) (rest := [.ref x]) C (kL_below l D cy (i1 := i1) (i2 := 8) hx_52) mL_below u_748 u_749 7 [] [0, 1, 2, 3, 4, 5, 6] rfl (by decide +kernel) rfl rfl rfl rfl (Nat.le_of_ble_eq_true rfl) (Nat.le_of_ble_eq_true rfl) (Nat.le_of_ble_eq_true rfl) (Nat.le_of_ble_eq_true rfl) (Nat.le_of_ble_eq_true rfl) dL_act_84 rfl (fun _ _ hp => hp.2) (fun v_53 hp_55 => ?_)
    obtain ⟨rfl, -⟩ := hp_55
    refine xr_st (st' := [.int x_52, .ref x]) rfl ?_
    refine xr_iload_n (n := 88) (j := 1) C dL_act_87 rfl rfl ?_
    refine xr_iconst (n := 89) (v := 3) C dL_act_88 rfl rfl ?_
    refine xr_ishr (n := 90) C dL_act_89 rfl ?_
    refine xr_bipush (n := 92) (v := 6) C dL_act_90 rfl rfl ?_
    obtain ⟨x_56, hx_56, hR⟩ := yf_b hR
    refine xr_callSp (n := 95) (As := [.int (i1 >>> ((3 : Int32) &&& 31)), .int 6]) (rest := [.int x_52, .ref x]) C (kL_below l D cy (i1 := i1 >>> ((3 : Int32) &&& 31)) (i2 := 6) hx_56) mL_below u_748 u_749 7 [] [0, 1, 2, 3, 4, 5, 6] rfl (by decide +kernel) rfl rfl rfl rfl (Nat.le_of_ble_eq_true rfl) (Nat.le_of_ble_eq_true rfl) (Nat.le_of_ble_eq_true rfl) (Nat.le_of_ble_eq_true rfl) (Nat.le_of_ble_eq_true rfl) dL_act_92 rfl (fun _ _ hp => hp.2) (fun v_57 hp_59 => ?_)
    obtain ⟨rfl, -⟩ := hp_59
    refine xr_st (st' := [.int x_56, .int x_52, .ref x]) rfl ?_
    refine xr_iload_n (n := 96) (j := 1) C dL_act_95 rfl rfl ?_
    refine xr_iconst (n := 97) (v := 5) C dL_act_96 rfl rfl ?_
    refine xr_ishr (n := 98) C dL_act_97 rfl ?_
    refine xr_bipush (n := 100) (v := 19) C dL_act_98 rfl rfl ?_
    obtain ⟨x_60, hx_60, hR⟩ := yf_b hR
    refine xr_callSp (n := 103) (As := [.int (i1 >>> ((5 : Int32) &&& 31)), .int 19]) (rest := [.int x_56, .int x_52, .ref x]) C (kL_below l D cy (i1 := i1 >>> ((5 : Int32) &&& 31)) (i2 := 19) hx_60) mL_below u_748 u_749 7 [] [0, 1, 2, 3, 4, 5, 6] rfl (by decide +kernel) rfl rfl rfl rfl (Nat.le_of_ble_eq_true rfl) (Nat.le_of_ble_eq_true rfl) (Nat.le_of_ble_eq_true rfl) (Nat.le_of_ble_eq_true rfl) (Nat.le_of_ble_eq_true rfl) dL_act_100 rfl (fun _ _ hp => hp.2) (fun v_61 hp_63 => ?_)
    obtain ⟨rfl, -⟩ := hp_63
    refine xr_st (st' := [.int x_60, .int x_56, .int x_52, .ref x]) rfl ?_
    refine xr_bipush (n := 105) (v := 9) C dL_act_103 rfl rfl ?_
    refine xr_isub (n := 106) C dL_act_105 rfl ?_
    obtain ⟨x_64, hx_64, hR⟩ := yf_b hR
    refine xr_callVX (n := 109) (As := [.int x_52, .int x_56, .int (x_60 - 9)]) (rest := []) C htab (kX6_left l D cy hl0 (x := x) (xj := xj) (xw := xw) (xz := xz) (xo := xo) (xy := xy) (xt := xt) (xja := xja) (xjb := xjb) (xjr := xjr) (xjk := xjk) (xjc := xjc) (xjg := xjg) (xjs := xjs) (xjan := xjan) (xjaf := xjaf) (i1 := x_52) (i2 := x_56) (i3 := x_60 - 9) hx_64) mX6_left u_775 u_776 u_777 0 rfl rfl 7 [0, 1, 2, 3] [4, 5, 6] rfl (by decide +kernel) rfl rfl rfl rfl (Nat.le_of_ble_eq_true rfl) (Nat.le_of_ble_eq_true rfl) (Nat.le_of_ble_eq_true rfl) (Nat.le_of_ble_eq_true rfl) (Nat.le_of_ble_eq_true rfl) dL_act_106 rfl (fun E_ u_68 hp_69 => ?_) (fun v_65 u_66 hp_67 => ?_)
    · obtain ⟨w_70, ew_70, rfl, rfl⟩ := hp_69
      subst ew_70
      replace hR := ybr_l hR
      by_cases c_71 : w_70 = 1
      · replace hR := yf_t c_71 hR
        refine ⟨215, by rw [c_71]; exact yc_L_act_1_106, fun q_72 => ?_⟩
        refine xr_perm C 7 [0, 1, 2, 3, 4, 5, 6] [] [[(x, .inr (6, [.ref xj, .ref xw, .ref xz, .ref xo, .ref xy, .ref xt]))], [(xj, .inr (1, [.ref xja, .ref xjb, .int xjr, .int xjk, .int xjc, .int xjg, .int xjs]))], [(xja, .inr (4, [.ref xjan]))], [(xjan, .inl (cy 1, 81, .inl xjaf))], [(xjb, .inr (4, [.ref xjbn]))], [(xjbn, .inl (cy 1, 81, .inl xjbf))], [(xw, .inr (0, [.ref xwu, .ref xwm, .int xwb, .int xwk]))]] rfl (by decide +kernel) rfl ?_
        refine xr_astore_n (n := 216) C [(3, .ref q_72), (0, .ref x), (1, .int i1), (2, .int i2)] dL_act_215 (by decide) rfl rfl ?_
        obtain rfl := Option.some.inj hR
        exact ret ⟨rfl, rfl⟩ (Nat.le_of_ble_eq_true rfl) (Nat.le_of_ble_eq_true rfl) dL_act_216
      replace hR := yf_f c_71 hR
      by_cases c_73 : w_70 = 2
      · replace hR := yf_t c_73 hR
        refine ⟨217, by rw [c_73]; exact yc_L_act_2_106, fun q_74 => ?_⟩
        refine xr_perm C 7 [0, 1, 2, 3, 4, 5, 6] [] [[(x, .inr (6, [.ref xj, .ref xw, .ref xz, .ref xo, .ref xy, .ref xt]))], [(xj, .inr (1, [.ref xja, .ref xjb, .int xjr, .int xjk, .int xjc, .int xjg, .int xjs]))], [(xja, .inr (4, [.ref xjan]))], [(xjan, .inl (cy 1, 81, .inl xjaf))], [(xjb, .inr (4, [.ref xjbn]))], [(xjbn, .inl (cy 1, 81, .inl xjbf))], [(xw, .inr (0, [.ref xwu, .ref xwm, .int xwb, .int xwk]))]] rfl (by decide +kernel) rfl ?_
        refine xr_astore_n (n := 218) C [(3, .ref q_74), (0, .ref x), (1, .int i1), (2, .int i2)] dL_act_217 (by decide) rfl rfl ?_
        obtain rfl := Option.some.inj hR
        exact ret ⟨rfl, rfl⟩ (Nat.le_of_ble_eq_true rfl) (Nat.le_of_ble_eq_true rfl) dL_act_218
      replace hR := yf_f c_73 hR
      cases hR
    · obtain ⟨w_75, ew_75, rfl, rfl⟩ := hp_67
      subst ew_75
      replace hR := ybr_r hR
      refine xr_perm C 7 [0, 1, 2, 3, 4, 5, 6] [] [[(x, .inr (6, [.ref xj, .ref xw, .ref xz, .ref xo, .ref xy, .ref xt]))], [(xj, .inr (1, [.ref xja, .ref xjb, .int xjr, .int xjk, .int xjc, .int xjg, .int xjs]))], [(xja, .inr (4, [.ref xjan]))], [(xjan, .inl (cy 1, 81, .inl w_75.2))], [(xjb, .inr (4, [.ref xjbn]))], [(xjbn, .inl (cy 1, 81, .inl xjbf))], [(xw, .inr (0, [.ref xwu, .ref xwm, .int xwb, .int xwk]))]] rfl (by decide +kernel) rfl ?_
      refine xr_st (st' := [.int w_75.1]) rfl ?_
      refine xr_pop (n := 110) C dL_act_109 rfl rfl ?_
      refine xr_goto (tgt := 212) C dL_act_110 rfl ?_
      refine xr_goto (tgt := 219) C dL_act_212 rfl ?_
      obtain rfl := Option.some.inj hR
      exact ret ⟨rfl, rfl⟩ (Nat.le_of_ble_eq_true rfl) (Nat.le_of_ble_eq_true rfl) dL_act_219
  replace hR := yf_f c_51 hR
  by_cases c_76 : i2 = 3
  · replace hR := yf_t c_76 hR
    refine xr_tableIn (off := 112) (tgt := 113) C dL_act_1 (by rw [c_76]; decide) (by rw [c_76]; decide) (by rw [c_76]; decide) rfl ?_
    refine xr_aload_n (n := 114) (j := 0) C dL_act_113 rfl rfl ?_
    refine xr_iload_n (n := 115) (j := 1) C dL_act_114 rfl rfl ?_
    refine xr_bipush (n := 117) (v := 6) C dL_act_115 rfl rfl ?_
    obtain ⟨x_77, hx_77, hR⟩ := yf_b hR
    refine xr_callSp (n := 120) (As := [.int i1, .int 6]) (rest := [.ref x]) C (kL_below l D cy (i1 := i1) (i2 := 6) hx_77) mL_below u_748 u_749 7 [] [0, 1, 2, 3, 4, 5, 6] rfl (by decide +kernel) rfl rfl rfl rfl (Nat.le_of_ble_eq_true rfl) (Nat.le_of_ble_eq_true rfl) (Nat.le_of_ble_eq_true rfl) (Nat.le_of_ble_eq_true rfl) (Nat.le_of_ble_eq_true rfl) dL_act_117 rfl (fun _ _ hp => hp.2) (fun v_78 hp_80 => ?_)
    obtain ⟨rfl, -⟩ := hp_80
    refine xr_st (st' := [.int x_77, .ref x]) rfl ?_
    refine xr_iload_n (n := 121) (j := 1) C dL_act_120 rfl rfl ?_
    refine xr_iconst (n := 122) (v := 3) C dL_act_121 rfl rfl ?_
    refine xr_ishr (n := 123) C dL_act_122 rfl ?_
    refine xr_bipush (n := 125) (v := 8) C dL_act_123 rfl rfl ?_
    obtain ⟨x_81, hx_81, hR⟩ := yf_b hR
    refine xr_callSp (n := 128) (As := [.int (i1 >>> ((3 : Int32) &&& 31)), .int 8]) (rest := [.int x_77, .ref x]) C (kL_below l D cy (i1 := i1 >>> ((3 : Int32) &&& 31)) (i2 := 8) hx_81) mL_below u_748 u_749 7 [] [0, 1, 2, 3, 4, 5, 6] rfl (by decide +kernel) rfl rfl rfl rfl (Nat.le_of_ble_eq_true rfl) (Nat.le_of_ble_eq_true rfl) (Nat.le_of_ble_eq_true rfl) (Nat.le_of_ble_eq_true rfl) (Nat.le_of_ble_eq_true rfl) dL_act_125 rfl (fun _ _ hp => hp.2) (fun v_82 hp_84 => ?_)
    obtain ⟨rfl, -⟩ := hp_84
    refine xr_st (st' := [.int x_81, .int x_77, .ref x]) rfl ?_
    refine xr_iload_n (n := 129) (j := 1) C dL_act_128 rfl rfl ?_
    refine xr_iconst (n := 130) (v := 5) C dL_act_129 rfl rfl ?_
    refine xr_ishr (n := 131) C dL_act_130 rfl ?_
    refine xr_bipush (n := 133) (v := 19) C dL_act_131 rfl rfl ?_
    obtain ⟨x_85, hx_85, hR⟩ := yf_b hR
    refine xr_callSp (n := 136) (As := [.int (i1 >>> ((5 : Int32) &&& 31)), .int 19]) (rest := [.int x_81, .int x_77, .ref x]) C (kL_below l D cy (i1 := i1 >>> ((5 : Int32) &&& 31)) (i2 := 19) hx_85) mL_below u_748 u_749 7 [] [0, 1, 2, 3, 4, 5, 6] rfl (by decide +kernel) rfl rfl rfl rfl (Nat.le_of_ble_eq_true rfl) (Nat.le_of_ble_eq_true rfl) (Nat.le_of_ble_eq_true rfl) (Nat.le_of_ble_eq_true rfl) (Nat.le_of_ble_eq_true rfl) dL_act_133 rfl (fun _ _ hp => hp.2) (fun v_86 hp_88 => ?_)
    obtain ⟨rfl, -⟩ := hp_88
    refine xr_st (st' := [.int x_85, .int x_81, .int x_77, .ref x]) rfl ?_
    refine xr_bipush (n := 138) (v := 9) C dL_act_136 rfl rfl ?_
    refine xr_isub (n := 139) C dL_act_138 rfl ?_
    obtain ⟨x_89, hx_89, hR⟩ := yf_b hR
    refine xr_callVX (n := 142) (As := [.int x_77, .int x_81, .int (x_85 - 9)]) (rest := []) C htab (kX6_top l D cy hl0 (x := x) (xj := xj) (xw := xw) (xz := xz) (xo := xo) (xy := xy) (xt := xt) (xja := xja) (xjb := xjb) (xjr := xjr) (xjk := xjk) (xjc := xjc) (xjg := xjg) (xjs := xjs) (xjbn := xjbn) (xjbf := xjbf) (i1 := x_77) (i2 := x_81) (i3 := x_85 - 9) hx_89) mX6_top u_784 u_785 u_786 0 rfl rfl 7 [0, 1, 4, 5] [2, 3, 6] rfl (by decide +kernel) rfl rfl rfl rfl (Nat.le_of_ble_eq_true rfl) (Nat.le_of_ble_eq_true rfl) (Nat.le_of_ble_eq_true rfl) (Nat.le_of_ble_eq_true rfl) (Nat.le_of_ble_eq_true rfl) dL_act_139 rfl (fun E_ u_93 hp_94 => ?_) (fun v_90 u_91 hp_92 => ?_)
    · obtain ⟨w_95, ew_95, rfl, rfl⟩ := hp_94
      subst ew_95
      replace hR := ybr_l hR
      by_cases c_96 : w_95 = 1
      · replace hR := yf_t c_96 hR
        refine ⟨215, by rw [c_96]; exact yc_L_act_1_139, fun q_97 => ?_⟩
        refine xr_perm C 7 [0, 1, 4, 5, 2, 3, 6] [] [[(x, .inr (6, [.ref xj, .ref xw, .ref xz, .ref xo, .ref xy, .ref xt]))], [(xj, .inr (1, [.ref xja, .ref xjb, .int xjr, .int xjk, .int xjc, .int xjg, .int xjs]))], [(xja, .inr (4, [.ref xjan]))], [(xjan, .inl (cy 1, 81, .inl xjaf))], [(xjb, .inr (4, [.ref xjbn]))], [(xjbn, .inl (cy 1, 81, .inl xjbf))], [(xw, .inr (0, [.ref xwu, .ref xwm, .int xwb, .int xwk]))]] rfl (by decide +kernel) rfl ?_
        refine xr_astore_n (n := 216) C [(3, .ref q_97), (0, .ref x), (1, .int i1), (2, .int i2)] dL_act_215 (by decide) rfl rfl ?_
        obtain rfl := Option.some.inj hR
        exact ret ⟨rfl, rfl⟩ (Nat.le_of_ble_eq_true rfl) (Nat.le_of_ble_eq_true rfl) dL_act_216
      replace hR := yf_f c_96 hR
      by_cases c_98 : w_95 = 2
      · replace hR := yf_t c_98 hR
        refine ⟨217, by rw [c_98]; exact yc_L_act_2_139, fun q_99 => ?_⟩
        refine xr_perm C 7 [0, 1, 4, 5, 2, 3, 6] [] [[(x, .inr (6, [.ref xj, .ref xw, .ref xz, .ref xo, .ref xy, .ref xt]))], [(xj, .inr (1, [.ref xja, .ref xjb, .int xjr, .int xjk, .int xjc, .int xjg, .int xjs]))], [(xja, .inr (4, [.ref xjan]))], [(xjan, .inl (cy 1, 81, .inl xjaf))], [(xjb, .inr (4, [.ref xjbn]))], [(xjbn, .inl (cy 1, 81, .inl xjbf))], [(xw, .inr (0, [.ref xwu, .ref xwm, .int xwb, .int xwk]))]] rfl (by decide +kernel) rfl ?_
        refine xr_astore_n (n := 218) C [(3, .ref q_99), (0, .ref x), (1, .int i1), (2, .int i2)] dL_act_217 (by decide) rfl rfl ?_
        obtain rfl := Option.some.inj hR
        exact ret ⟨rfl, rfl⟩ (Nat.le_of_ble_eq_true rfl) (Nat.le_of_ble_eq_true rfl) dL_act_218
      replace hR := yf_f c_98 hR
      cases hR
    · obtain ⟨w_100, ew_100, rfl, rfl⟩ := hp_92
      subst ew_100
      replace hR := ybr_r hR
      refine xr_perm C 7 [0, 1, 4, 5, 2, 3, 6] [] [[(x, .inr (6, [.ref xj, .ref xw, .ref xz, .ref xo, .ref xy, .ref xt]))], [(xj, .inr (1, [.ref xja, .ref xjb, .int xjr, .int xjk, .int xjc, .int xjg, .int xjs]))], [(xja, .inr (4, [.ref xjan]))], [(xjan, .inl (cy 1, 81, .inl xjaf))], [(xjb, .inr (4, [.ref xjbn]))], [(xjbn, .inl (cy 1, 81, .inl w_100.2))], [(xw, .inr (0, [.ref xwu, .ref xwm, .int xwb, .int xwk]))]] rfl (by decide +kernel) rfl ?_
      refine xr_st (st' := [.int w_100.1]) rfl ?_
      refine xr_pop (n := 143) C dL_act_142 rfl rfl ?_
      refine xr_goto (tgt := 212) C dL_act_143 rfl ?_
      refine xr_goto (tgt := 219) C dL_act_212 rfl ?_
      obtain rfl := Option.some.inj hR
      exact ret ⟨rfl, rfl⟩ (Nat.le_of_ble_eq_true rfl) (Nat.le_of_ble_eq_true rfl) dL_act_219
  replace hR := yf_f c_76 hR
  by_cases c_101 : i2 = 4
  · replace hR := yf_t c_101 hR
    refine xr_tableIn (off := 112) (tgt := 113) C dL_act_1 (by rw [c_101]; decide) (by rw [c_101]; decide) (by rw [c_101]; decide) rfl ?_
    refine xr_aload_n (n := 114) (j := 0) C dL_act_113 rfl rfl ?_
    refine xr_iload_n (n := 115) (j := 1) C dL_act_114 rfl rfl ?_
    refine xr_bipush (n := 117) (v := 6) C dL_act_115 rfl rfl ?_
    obtain ⟨x_102, hx_102, hR⟩ := yf_b hR
    refine xr_callSp (n := 120) (As := [.int i1, .int 6]) (rest := [.ref x]) C (kL_below l D cy (i1 := i1) (i2 := 6) hx_102) mL_below u_748 u_749 7 [] [0, 1, 2, 3, 4, 5, 6] rfl (by decide +kernel) rfl rfl rfl rfl (Nat.le_of_ble_eq_true rfl) (Nat.le_of_ble_eq_true rfl) (Nat.le_of_ble_eq_true rfl) (Nat.le_of_ble_eq_true rfl) (Nat.le_of_ble_eq_true rfl) dL_act_117 rfl (fun _ _ hp => hp.2) (fun v_103 hp_105 => ?_)
    obtain ⟨rfl, -⟩ := hp_105
    refine xr_st (st' := [.int x_102, .ref x]) rfl ?_
    refine xr_iload_n (n := 121) (j := 1) C dL_act_120 rfl rfl ?_
    refine xr_iconst (n := 122) (v := 3) C dL_act_121 rfl rfl ?_
    refine xr_ishr (n := 123) C dL_act_122 rfl ?_
    refine xr_bipush (n := 125) (v := 8) C dL_act_123 rfl rfl ?_
    obtain ⟨x_106, hx_106, hR⟩ := yf_b hR
    refine xr_callSp (n := 128) (As := [.int (i1 >>> ((3 : Int32) &&& 31)), .int 8]) (rest := [.int x_102, .ref x]) C (kL_below l D cy (i1 := i1 >>> ((3 : Int32) &&& 31)) (i2 := 8) hx_106) mL_below u_748 u_749 7 [] [0, 1, 2, 3, 4, 5, 6] rfl (by decide +kernel) rfl rfl rfl rfl (Nat.le_of_ble_eq_true rfl) (Nat.le_of_ble_eq_true rfl) (Nat.le_of_ble_eq_true rfl) (Nat.le_of_ble_eq_true rfl) (Nat.le_of_ble_eq_true rfl) dL_act_125 rfl (fun _ _ hp => hp.2) (fun v_107 hp_109 => ?_)
    obtain ⟨rfl, -⟩ := hp_109
    refine xr_st (st' := [.int x_106, .int x_102, .ref x]) rfl ?_
    refine xr_iload_n (n := 129) (j := 1) C dL_act_128 rfl rfl ?_
    refine xr_iconst (n := 130) (v := 5) C dL_act_129 rfl rfl ?_
    refine xr_ishr (n := 131) C dL_act_130 rfl ?_
    refine xr_bipush (n := 133) (v := 19) C dL_act_131 rfl rfl ?_
    obtain ⟨x_110, hx_110, hR⟩ := yf_b hR
    refine xr_callSp (n := 136) (As := [.int (i1 >>> ((5 : Int32) &&& 31)), .int 19]) (rest := [.int x_106, .int x_102, .ref x]) C (kL_below l D cy (i1 := i1 >>> ((5 : Int32) &&& 31)) (i2 := 19) hx_110) mL_below u_748 u_749 7 [] [0, 1, 2, 3, 4, 5, 6] rfl (by decide +kernel) rfl rfl rfl rfl (Nat.le_of_ble_eq_true rfl) (Nat.le_of_ble_eq_true rfl) (Nat.le_of_ble_eq_true rfl) (Nat.le_of_ble_eq_true rfl) (Nat.le_of_ble_eq_true rfl) dL_act_133 rfl (fun _ _ hp => hp.2) (fun v_111 hp_113 => ?_)
    obtain ⟨rfl, -⟩ := hp_113
    refine xr_st (st' := [.int x_110, .int x_106, .int x_102, .ref x]) rfl ?_
    refine xr_bipush (n := 138) (v := 9) C dL_act_136 rfl rfl ?_
    refine xr_isub (n := 139) C dL_act_138 rfl ?_
    obtain ⟨x_114, hx_114, hR⟩ := yf_b hR
    refine xr_callVX (n := 142) (As := [.int x_102, .int x_106, .int (x_110 - 9)]) (rest := []) C htab (kX6_top l D cy hl0 (x := x) (xj := xj) (xw := xw) (xz := xz) (xo := xo) (xy := xy) (xt := xt) (xja := xja) (xjb := xjb) (xjr := xjr) (xjk := xjk) (xjc := xjc) (xjg := xjg) (xjs := xjs) (xjbn := xjbn) (xjbf := xjbf) (i1 := x_102) (i2 := x_106) (i3 := x_110 - 9) hx_114) mX6_top u_784 u_785 u_786 0 rfl rfl 7 [0, 1, 4, 5] [2, 3, 6] rfl (by decide +kernel) rfl rfl rfl rfl (Nat.le_of_ble_eq_true rfl) (Nat.le_of_ble_eq_true rfl) (Nat.le_of_ble_eq_true rfl) (Nat.le_of_ble_eq_true rfl) (Nat.le_of_ble_eq_true rfl) dL_act_139 rfl (fun E_ u_118 hp_119 => ?_) (fun v_115 u_116 hp_117 => ?_)
    · obtain ⟨w_120, ew_120, rfl, rfl⟩ := hp_119
      subst ew_120
      replace hR := ybr_l hR
      by_cases c_121 : w_120 = 1
      · replace hR := yf_t c_121 hR
        refine ⟨215, by rw [c_121]; exact yc_L_act_1_139, fun q_122 => ?_⟩
        refine xr_perm C 7 [0, 1, 4, 5, 2, 3, 6] [] [[(x, .inr (6, [.ref xj, .ref xw, .ref xz, .ref xo, .ref xy, .ref xt]))], [(xj, .inr (1, [.ref xja, .ref xjb, .int xjr, .int xjk, .int xjc, .int xjg, .int xjs]))], [(xja, .inr (4, [.ref xjan]))], [(xjan, .inl (cy 1, 81, .inl xjaf))], [(xjb, .inr (4, [.ref xjbn]))], [(xjbn, .inl (cy 1, 81, .inl xjbf))], [(xw, .inr (0, [.ref xwu, .ref xwm, .int xwb, .int xwk]))]] rfl (by decide +kernel) rfl ?_
        refine xr_astore_n (n := 216) C [(3, .ref q_122), (0, .ref x), (1, .int i1), (2, .int i2)] dL_act_215 (by decide) rfl rfl ?_
        obtain rfl := Option.some.inj hR
        exact ret ⟨rfl, rfl⟩ (Nat.le_of_ble_eq_true rfl) (Nat.le_of_ble_eq_true rfl) dL_act_216
      replace hR := yf_f c_121 hR
      by_cases c_123 : w_120 = 2
      · replace hR := yf_t c_123 hR
        refine ⟨217, by rw [c_123]; exact yc_L_act_2_139, fun q_124 => ?_⟩
        refine xr_perm C 7 [0, 1, 4, 5, 2, 3, 6] [] [[(x, .inr (6, [.ref xj, .ref xw, .ref xz, .ref xo, .ref xy, .ref xt]))], [(xj, .inr (1, [.ref xja, .ref xjb, .int xjr, .int xjk, .int xjc, .int xjg, .int xjs]))], [(xja, .inr (4, [.ref xjan]))], [(xjan, .inl (cy 1, 81, .inl xjaf))], [(xjb, .inr (4, [.ref xjbn]))], [(xjbn, .inl (cy 1, 81, .inl xjbf))], [(xw, .inr (0, [.ref xwu, .ref xwm, .int xwb, .int xwk]))]] rfl (by decide +kernel) rfl ?_
        refine xr_astore_n (n := 218) C [(3, .ref q_124), (0, .ref x), (1, .int i1), (2, .int i2)] dL_act_217 (by decide) rfl rfl ?_
        obtain rfl := Option.some.inj hR
        exact ret ⟨rfl, rfl⟩ (Nat.le_of_ble_eq_true rfl) (Nat.le_of_ble_eq_true rfl) dL_act_218
      replace hR := yf_f c_123 hR
      cases hR
    · obtain ⟨w_125, ew_125, rfl, rfl⟩ := hp_117
      subst ew_125
      replace hR := ybr_r hR
      refine xr_perm C 7 [0, 1, 4, 5, 2, 3, 6] [] [[(x, .inr (6, [.ref xj, .ref xw, .ref xz, .ref xo, .ref xy, .ref xt]))], [(xj, .inr (1, [.ref xja, .ref xjb, .int xjr, .int xjk, .int xjc, .int xjg, .int xjs]))], [(xja, .inr (4, [.ref xjan]))], [(xjan, .inl (cy 1, 81, .inl xjaf))], [(xjb, .inr (4, [.ref xjbn]))], [(xjbn, .inl (cy 1, 81, .inl w_125.2))], [(xw, .inr (0, [.ref xwu, .ref xwm, .int xwb, .int xwk]))]] rfl (by decide +kernel) rfl ?_
      refine xr_st (st' := [.int w_125.1]) rfl ?_
      refine xr_pop (n := 143) C dL_act_142 rfl rfl ?_
      refine xr_goto (tgt := 212) C dL_act_143 rfl ?_
      refine xr_goto (tgt := 219) C dL_act_212 rfl ?_
      obtain rfl := Option.some.inj hR
      exact ret ⟨rfl, rfl⟩ (Nat.le_of_ble_eq_true rfl) (Nat.le_of_ble_eq_true rfl) dL_act_219
  replace hR := yf_f c_101 hR
  by_cases c_126 : i2 = 5
  · replace hR := yf_t c_126 hR
    refine xr_tableIn (off := 145) (tgt := 146) C dL_act_1 (by rw [c_126]; decide) (by rw [c_126]; decide) (by rw [c_126]; decide) rfl ?_
    refine xr_aload_n (n := 147) (j := 0) C dL_act_146 rfl rfl ?_
    refine xr_iload_n (n := 148) (j := 1) C dL_act_147 rfl rfl ?_
    refine xr_iconst (n := 149) (v := 3) C dL_act_148 rfl rfl ?_
    obtain ⟨x_127, hx_127, hR⟩ := yf_b hR
    refine xr_callSp (n := 152) (As := [.int i1, .int 3]) (rest := [.ref x]) C (kL_below l D cy (i1 := i1) (i2 := 3) hx_127) mL_below u_748 u_749 7 [] [0, 1, 2, 3, 4, 5, 6] rfl (by decide +kernel) rfl rfl rfl rfl (Nat.le_of_ble_eq_true rfl) (Nat.le_of_ble_eq_true rfl) (Nat.le_of_ble_eq_true rfl) (Nat.le_of_ble_eq_true rfl) (Nat.le_of_ble_eq_true rfl) dL_act_149 rfl (fun _ _ hp => hp.2) (fun v_128 hp_130 => ?_)
    obtain ⟨rfl, -⟩ := hp_130
    refine xr_st (st' := [.int x_127, .ref x]) rfl ?_
    obtain ⟨x_131, hx_131, hR⟩ := yf_b hR
    refine xr_callVX (n := 155) (As := [.int x_127]) (rest := []) C htab (kX6_kind l D cy hl0 (x := x) (xj := xj) (xw := xw) (xz := xz) (xo := xo) (xy := xy) (xt := xt) (xja := xja) (xjb := xjb) (xjr := xjr) (xjk := xjk) (xjc := xjc) (xjg := xjg) (xjs := xjs) (i1 := x_127) hx_131) mX6_kind u_789 u_790 u_791 0 rfl rfl 7 [0, 1] [2, 3, 4, 5, 6] rfl (by decide +kernel) rfl rfl rfl rfl (Nat.le_of_ble_eq_true rfl) (Nat.le_of_ble_eq_true rfl) (Nat.le_of_ble_eq_true rfl) (Nat.le_of_ble_eq_true rfl) (Nat.le_of_ble_eq_true rfl) dL_act_152 rfl (fun E_ u_135 hp_136 => ?_) (fun v_132 u_133 hp_134 => ?_)
    · obtain ⟨w_137, ew_137, rfl, rfl⟩ := hp_136
      subst ew_137
      replace hR := ybr_l hR
      by_cases c_138 : w_137 = 1
      · replace hR := yf_t c_138 hR
        refine ⟨215, by rw [c_138]; exact yc_L_act_1_152, fun q_139 => ?_⟩
        refine xr_perm C 7 [0, 1, 2, 3, 4, 5, 6] [] [[(x, .inr (6, [.ref xj, .ref xw, .ref xz, .ref xo, .ref xy, .ref xt]))], [(xj, .inr (1, [.ref xja, .ref xjb, .int xjr, .int xjk, .int xjc, .int xjg, .int xjs]))], [(xja, .inr (4, [.ref xjan]))], [(xjan, .inl (cy 1, 81, .inl xjaf))], [(xjb, .inr (4, [.ref xjbn]))], [(xjbn, .inl (cy 1, 81, .inl xjbf))], [(xw, .inr (0, [.ref xwu, .ref xwm, .int xwb, .int xwk]))]] rfl (by decide +kernel) rfl ?_
        refine xr_astore_n (n := 216) C [(3, .ref q_139), (0, .ref x), (1, .int i1), (2, .int i2)] dL_act_215 (by decide) rfl rfl ?_
        obtain rfl := Option.some.inj hR
        exact ret ⟨rfl, rfl⟩ (Nat.le_of_ble_eq_true rfl) (Nat.le_of_ble_eq_true rfl) dL_act_216
      replace hR := yf_f c_138 hR
      by_cases c_140 : w_137 = 2
      · replace hR := yf_t c_140 hR
        refine ⟨217, by rw [c_140]; exact yc_L_act_2_152, fun q_141 => ?_⟩
        refine xr_perm C 7 [0, 1, 2, 3, 4, 5, 6] [] [[(x, .inr (6, [.ref xj, .ref xw, .ref xz, .ref xo, .ref xy, .ref xt]))], [(xj, .inr (1, [.ref xja, .ref xjb, .int xjr, .int xjk, .int xjc, .int xjg, .int xjs]))], [(xja, .inr (4, [.ref xjan]))], [(xjan, .inl (cy 1, 81, .inl xjaf))], [(xjb, .inr (4, [.ref xjbn]))], [(xjbn, .inl (cy 1, 81, .inl xjbf))], [(xw, .inr (0, [.ref xwu, .ref xwm, .int xwb, .int xwk]))]] rfl (by decide +kernel) rfl ?_
        refine xr_astore_n (n := 218) C [(3, .ref q_141), (0, .ref x), (1, .int i1), (2, .int i2)] dL_act_217 (by decide) rfl rfl ?_
        obtain rfl := Option.some.inj hR
        exact ret ⟨rfl, rfl⟩ (Nat.le_of_ble_eq_true rfl) (Nat.le_of_ble_eq_true rfl) dL_act_218
      replace hR := yf_f c_140 hR
      cases hR
    · obtain ⟨w_142, ew_142, rfl, rfl⟩ := hp_134
      subst ew_142
      replace hR := ybr_r hR
      refine xr_perm C 7 [0, 1, 2, 3, 4, 5, 6] [] [[(x, .inr (6, [.ref xj, .ref xw, .ref xz, .ref xo, .ref xy, .ref xt]))], [(xj, .inr (1, [.ref xja, .ref xjb, .int xjr, .int xjk, .int xjc, .int w_142.2.1, .int w_142.2.2]))], [(xja, .inr (4, [.ref xjan]))], [(xjan, .inl (cy 1, 81, .inl xjaf))], [(xjb, .inr (4, [.ref xjbn]))], [(xjbn, .inl (cy 1, 81, .inl xjbf))], [(xw, .inr (0, [.ref xwu, .ref xwm, .int xwb, .int xwk]))]] rfl (by decide +kernel) rfl ?_
      refine xr_st (st' := [.int w_142.1]) rfl ?_
      refine xr_pop (n := 156) C dL_act_155 rfl rfl ?_
      refine xr_goto (tgt := 212) C dL_act_156 rfl ?_
      refine xr_goto (tgt := 219) C dL_act_212 rfl ?_
      obtain rfl := Option.some.inj hR
      exact ret ⟨rfl, rfl⟩ (Nat.le_of_ble_eq_true rfl) (Nat.le_of_ble_eq_true rfl) dL_act_219
  replace hR := yf_f c_126 hR
  by_cases c_143 : i2 = 6
  · replace hR := yf_t c_143 hR
    refine xr_tableIn (off := 158) (tgt := 159) C dL_act_1 (by rw [c_143]; decide) (by rw [c_143]; decide) (by rw [c_143]; decide) rfl ?_
    refine xr_aload_n (n := 160) (j := 0) C dL_act_159 rfl rfl ?_
    refine xr_iload_n (n := 161) (j := 1) C dL_act_160 rfl rfl ?_
    refine xr_iconst (n := 162) (v := 3) C dL_act_161 rfl rfl ?_
    obtain ⟨x_144, hx_144, hR⟩ := yf_b hR
    refine xr_callSp (n := 165) (As := [.int i1, .int 3]) (rest := [.ref x]) C (kL_below l D cy (i1 := i1) (i2 := 3) hx_144) mL_below u_748 u_749 7 [] [0, 1, 2, 3, 4, 5, 6] rfl (by decide +kernel) rfl rfl rfl rfl (Nat.le_of_ble_eq_true rfl) (Nat.le_of_ble_eq_true rfl) (Nat.le_of_ble_eq_true rfl) (Nat.le_of_ble_eq_true rfl) (Nat.le_of_ble_eq_true rfl) dL_act_162 rfl (fun _ _ hp => hp.2) (fun v_145 hp_147 => ?_)
    obtain ⟨rfl, -⟩ := hp_147
    refine xr_st (st' := [.int x_144, .ref x]) rfl ?_
    obtain ⟨r_149, hE_149, hR⟩ := yf_b hR
    have J_149 : X p l e (yR 7 1 6) s m args below meth c D A H0 4 Q [[(x, .inr (6, [.ref xj, .ref xw, .ref xz, .ref xo, .ref xy, .ref xt]))], [(xj, .inr (1, [.ref xja, .ref xjb, .int xjr, .int xjk, .int xjc, .int xjg, .int xjs]))], [(xja, .inr (4, [.ref xjan]))], [(xjan, .inl (cy 1, 81, .inl xjaf))], [(xjb, .inr (4, [.ref xjbn]))], [(xjbn, .inl (cy 1, 81, .inl xjbf))], [(xw, .inr (0, [.ref xwu, .ref xwm, .int xwb, .int xwk]))]] 0 0 [] 173 [.int r_149, .ref x] := by
      obtain ⟨x_150, hx_150, hR⟩ := yf_b hR
      refine xr_callVX (n := 176) (As := [.int r_149]) (rest := []) C htab (kX6_checked l D cy hl0 (x := x) (xj := xj) (xw := xw) (xz := xz) (xo := xo) (xy := xy) (xt := xt) (xja := xja) (xjb := xjb) (xjr := xjr) (xjk := xjk) (xjc := xjc) (xjg := xjg) (xjs := xjs) (i1 := r_149) hx_150) mX6_checked u_794 u_795 u_796 0 rfl rfl 7 [0, 1] [2, 3, 4, 5, 6] rfl (by decide +kernel) rfl rfl rfl rfl (Nat.le_of_ble_eq_true rfl) (Nat.le_of_ble_eq_true rfl) (Nat.le_of_ble_eq_true rfl) (Nat.le_of_ble_eq_true rfl) (Nat.le_of_ble_eq_true rfl) dL_act_173 rfl (fun E_ u_154 hp_155 => ?_) (fun v_151 u_152 hp_153 => ?_)
      · obtain ⟨w_156, ew_156, rfl, rfl⟩ := hp_155
        subst ew_156
        replace hR := ybr_l hR
        by_cases c_157 : w_156 = 1
        · replace hR := yf_t c_157 hR
          refine ⟨215, by rw [c_157]; exact yc_L_act_1_173, fun q_158 => ?_⟩
          refine xr_perm C 7 [0, 1, 2, 3, 4, 5, 6] [] [[(x, .inr (6, [.ref xj, .ref xw, .ref xz, .ref xo, .ref xy, .ref xt]))], [(xj, .inr (1, [.ref xja, .ref xjb, .int xjr, .int xjk, .int xjc, .int xjg, .int xjs]))], [(xja, .inr (4, [.ref xjan]))], [(xjan, .inl (cy 1, 81, .inl xjaf))], [(xjb, .inr (4, [.ref xjbn]))], [(xjbn, .inl (cy 1, 81, .inl xjbf))], [(xw, .inr (0, [.ref xwu, .ref xwm, .int xwb, .int xwk]))]] rfl (by decide +kernel) rfl ?_
          refine xr_astore_n (n := 216) C [(3, .ref q_158)] dL_act_215 (by decide) rfl rfl ?_
          obtain rfl := Option.some.inj hR
          exact ret ⟨rfl, rfl⟩ (Nat.le_of_ble_eq_true rfl) (Nat.le_of_ble_eq_true rfl) dL_act_216
        replace hR := yf_f c_157 hR
        by_cases c_159 : w_156 = 2
        · replace hR := yf_t c_159 hR
          refine ⟨217, by rw [c_159]; exact yc_L_act_2_173, fun q_160 => ?_⟩
          refine xr_perm C 7 [0, 1, 2, 3, 4, 5, 6] [] [[(x, .inr (6, [.ref xj, .ref xw, .ref xz, .ref xo, .ref xy, .ref xt]))], [(xj, .inr (1, [.ref xja, .ref xjb, .int xjr, .int xjk, .int xjc, .int xjg, .int xjs]))], [(xja, .inr (4, [.ref xjan]))], [(xjan, .inl (cy 1, 81, .inl xjaf))], [(xjb, .inr (4, [.ref xjbn]))], [(xjbn, .inl (cy 1, 81, .inl xjbf))], [(xw, .inr (0, [.ref xwu, .ref xwm, .int xwb, .int xwk]))]] rfl (by decide +kernel) rfl ?_
          refine xr_astore_n (n := 218) C [(3, .ref q_160)] dL_act_217 (by decide) rfl rfl ?_
          obtain rfl := Option.some.inj hR
          exact ret ⟨rfl, rfl⟩ (Nat.le_of_ble_eq_true rfl) (Nat.le_of_ble_eq_true rfl) dL_act_218
        replace hR := yf_f c_159 hR
        cases hR
      · obtain ⟨w_161, ew_161, rfl, rfl⟩ := hp_153
        subst ew_161
        replace hR := ybr_r hR
        refine xr_perm C 7 [0, 1, 2, 3, 4, 5, 6] [] [[(x, .inr (6, [.ref xj, .ref xw, .ref xz, .ref xo, .ref xy, .ref xt]))], [(xj, .inr (1, [.ref xja, .ref xjb, .int xjr, .int xjk, .int xjc, .int xjg, .int w_161.2]))], [(xja, .inr (4, [.ref xjan]))], [(xjan, .inl (cy 1, 81, .inl xjaf))], [(xjb, .inr (4, [.ref xjbn]))], [(xjbn, .inl (cy 1, 81, .inl xjbf))], [(xw, .inr (0, [.ref xwu, .ref xwm, .int xwb, .int xwk]))]] rfl (by decide +kernel) rfl ?_
        refine xr_st (st' := [.int w_161.1]) rfl ?_
        refine xr_pop (n := 177) C dL_act_176 rfl rfl ?_
        refine xr_goto (tgt := 212) C dL_act_177 rfl ?_
        refine xr_goto (tgt := 219) C dL_act_212 rfl ?_
        obtain rfl := Option.some.inj hR
        exact ret ⟨rfl, rfl⟩ (Nat.le_of_ble_eq_true rfl) (Nat.le_of_ble_eq_true rfl) dL_act_219
    refine xr_if_le (tgt := 172) (n := 168) C dL_act_165 rfl rfl (fun c_162 => ?_) (fun c_162 => ?_)
    · replace hE_149 := yf_t c_162 hE_149
      refine xr_iconst (n := 173) (v := 0) C dL_act_172 rfl rfl ?_
      refine xr_lv (lv' := []) [] rfl ?_
      have e_163 := Option.some.inj hE_149
      subst e_163
      exact J_149
    · replace hE_149 := yf_f c_162 hE_149
      refine xr_iconst (n := 169) (v := 1) C dL_act_168 rfl rfl ?_
      refine xr_goto (tgt := 173) C dL_act_169 rfl ?_
      refine xr_lv (lv' := []) [] rfl ?_
      have e_164 := Option.some.inj hE_149
      subst e_164
      exact J_149
  replace hR := yf_f c_143 hR
  refine xr_tableOut (tgt := 180) C dL_act_1 (ytab_out (fun k h1 h2 => by
    rcases (show k = 0 ∨ k = 1 ∨ k = 2 ∨ k = 3 ∨ k = 4 ∨ k = 5 ∨ k = 6 by omega) with rfl | rfl | rfl | rfl | rfl | rfl | rfl
    · exact c_1
    · exact c_26
    · exact c_51
    · exact c_76
    · exact c_101
    · exact c_126
    · exact c_143)) rfl ?_
  refine xr_aload_n (n := 181) (j := 0) C dL_act_180 rfl rfl ?_
  refine xr_iload_n (n := 182) (j := 1) C dL_act_181 rfl rfl ?_
  refine xr_iconst (n := 183) (v := 5) C dL_act_182 rfl rfl ?_
  obtain ⟨x_165, hx_165, hR⟩ := yf_b hR
  refine xr_callSp (n := 186) (As := [.int i1, .int 5]) (rest := [.ref x]) C (kL_below l D cy (i1 := i1) (i2 := 5) hx_165) mL_below u_748 u_749 7 [] [0, 1, 2, 3, 4, 5, 6] rfl (by decide +kernel) rfl rfl rfl rfl (Nat.le_of_ble_eq_true rfl) (Nat.le_of_ble_eq_true rfl) (Nat.le_of_ble_eq_true rfl) (Nat.le_of_ble_eq_true rfl) (Nat.le_of_ble_eq_true rfl) dL_act_183 rfl (fun _ _ hp => hp.2) (fun v_166 hp_168 => ?_)
  obtain ⟨rfl, -⟩ := hp_168
  refine xr_st (st' := [.int x_165, .ref x]) rfl ?_
  refine xr_iload_n (n := 187) (j := 1) C dL_act_186 rfl rfl ?_
  refine xr_iconst (n := 188) (v := 3) C dL_act_187 rfl rfl ?_
  refine xr_ishr (n := 189) C dL_act_188 rfl ?_
  refine xr_iconst (n := 190) (v := 5) C dL_act_189 rfl rfl ?_
  obtain ⟨x_169, hx_169, hR⟩ := yf_b hR
  refine xr_callSp (n := 193) (As := [.int (i1 >>> ((3 : Int32) &&& 31)), .int 5]) (rest := [.int x_165, .ref x]) C (kL_below l D cy (i1 := i1 >>> ((3 : Int32) &&& 31)) (i2 := 5) hx_169) mL_below u_748 u_749 7 [] [0, 1, 2, 3, 4, 5, 6] rfl (by decide +kernel) rfl rfl rfl rfl (Nat.le_of_ble_eq_true rfl) (Nat.le_of_ble_eq_true rfl) (Nat.le_of_ble_eq_true rfl) (Nat.le_of_ble_eq_true rfl) (Nat.le_of_ble_eq_true rfl) dL_act_190 rfl (fun _ _ hp => hp.2) (fun v_170 hp_172 => ?_)
  obtain ⟨rfl, -⟩ := hp_172
  refine xr_st (st' := [.int x_169, .int x_165, .ref x]) rfl ?_
  refine xr_iload_n (n := 194) (j := 1) C dL_act_193 rfl rfl ?_
  refine xr_iconst (n := 195) (v := 5) C dL_act_194 rfl rfl ?_
  refine xr_ishr (n := 196) C dL_act_195 rfl ?_
  refine xr_iconst (n := 197) (v := 3) C dL_act_196 rfl rfl ?_
  obtain ⟨x_173, hx_173, hR⟩ := yf_b hR
  refine xr_callSp (n := 200) (As := [.int (i1 >>> ((5 : Int32) &&& 31)), .int 3]) (rest := [.int x_169, .int x_165, .ref x]) C (kL_below l D cy (i1 := i1 >>> ((5 : Int32) &&& 31)) (i2 := 3) hx_173) mL_below u_748 u_749 7 [] [0, 1, 2, 3, 4, 5, 6] rfl (by decide +kernel) rfl rfl rfl rfl (Nat.le_of_ble_eq_true rfl) (Nat.le_of_ble_eq_true rfl) (Nat.le_of_ble_eq_true rfl) (Nat.le_of_ble_eq_true rfl) (Nat.le_of_ble_eq_true rfl) dL_act_197 rfl (fun _ _ hp => hp.2) (fun v_174 hp_176 => ?_)
  obtain ⟨rfl, -⟩ := hp_176
  refine xr_st (st' := [.int x_173, .int x_169, .int x_165, .ref x]) rfl ?_
  obtain ⟨r_178, hE_178, hR⟩ := yf_b hR
  have J_178 : X p l e (yR 7 1 6) s m args below meth c D A H0 4 Q [[(x, .inr (6, [.ref xj, .ref xw, .ref xz, .ref xo, .ref xy, .ref xt]))], [(xj, .inr (1, [.ref xja, .ref xjb, .int xjr, .int xjk, .int xjc, .int xjg, .int xjs]))], [(xja, .inr (4, [.ref xjan]))], [(xjan, .inl (cy 1, 81, .inl xjaf))], [(xjb, .inr (4, [.ref xjbn]))], [(xjbn, .inl (cy 1, 81, .inl xjbf))], [(xw, .inr (0, [.ref xwu, .ref xwm, .int xwb, .int xwk]))]] 0 0 [] 208 [.int r_178, .int x_169, .int x_165, .ref x] := by
    obtain ⟨x_179, hx_179, hR⟩ := yf_b hR
    refine xr_callVX (n := 211) (As := [.int x_165, .int x_169, .int r_178]) (rest := []) C htab (kX6_broken l D cy hl0 (x := x) (xj := xj) (xw := xw) (xz := xz) (xo := xo) (xy := xy) (xt := xt) (xwu := xwu) (xwm := xwm) (xwb := xwb) (xwk := xwk) (i1 := x_165) (i2 := x_169) (isb := r_178) hx_179) mX6_broken u_799 u_800 u_801 0 rfl rfl 7 [0, 6] [1, 2, 3, 4, 5] rfl (by decide +kernel) rfl rfl rfl rfl (Nat.le_of_ble_eq_true rfl) (Nat.le_of_ble_eq_true rfl) (Nat.le_of_ble_eq_true rfl) (Nat.le_of_ble_eq_true rfl) (Nat.le_of_ble_eq_true rfl) dL_act_208 rfl (fun E_ u_183 hp_184 => ?_) (fun v_180 u_181 hp_182 => ?_)
    · obtain ⟨w_185, ew_185, rfl, rfl⟩ := hp_184
      subst ew_185
      replace hR := ybr_l hR
      by_cases c_186 : w_185 = 1
      · replace hR := yf_t c_186 hR
        refine ⟨215, by rw [c_186]; exact yc_L_act_1_208, fun q_187 => ?_⟩
        refine xr_perm C 7 [0, 2, 3, 4, 5, 6, 1] [] [[(x, .inr (6, [.ref xj, .ref xw, .ref xz, .ref xo, .ref xy, .ref xt]))], [(xj, .inr (1, [.ref xja, .ref xjb, .int xjr, .int xjk, .int xjc, .int xjg, .int xjs]))], [(xja, .inr (4, [.ref xjan]))], [(xjan, .inl (cy 1, 81, .inl xjaf))], [(xjb, .inr (4, [.ref xjbn]))], [(xjbn, .inl (cy 1, 81, .inl xjbf))], [(xw, .inr (0, [.ref xwu, .ref xwm, .int xwb, .int xwk]))]] rfl (by decide +kernel) rfl ?_
        refine xr_astore_n (n := 216) C [(3, .ref q_187)] dL_act_215 (by decide) rfl rfl ?_
        obtain rfl := Option.some.inj hR
        exact ret ⟨rfl, rfl⟩ (Nat.le_of_ble_eq_true rfl) (Nat.le_of_ble_eq_true rfl) dL_act_216
      replace hR := yf_f c_186 hR
      by_cases c_188 : w_185 = 2
      · replace hR := yf_t c_188 hR
        refine ⟨217, by rw [c_188]; exact yc_L_act_2_208, fun q_189 => ?_⟩
        refine xr_perm C 7 [0, 2, 3, 4, 5, 6, 1] [] [[(x, .inr (6, [.ref xj, .ref xw, .ref xz, .ref xo, .ref xy, .ref xt]))], [(xj, .inr (1, [.ref xja, .ref xjb, .int xjr, .int xjk, .int xjc, .int xjg, .int xjs]))], [(xja, .inr (4, [.ref xjan]))], [(xjan, .inl (cy 1, 81, .inl xjaf))], [(xjb, .inr (4, [.ref xjbn]))], [(xjbn, .inl (cy 1, 81, .inl xjbf))], [(xw, .inr (0, [.ref xwu, .ref xwm, .int xwb, .int xwk]))]] rfl (by decide +kernel) rfl ?_
        refine xr_astore_n (n := 218) C [(3, .ref q_189)] dL_act_217 (by decide) rfl rfl ?_
        obtain rfl := Option.some.inj hR
        exact ret ⟨rfl, rfl⟩ (Nat.le_of_ble_eq_true rfl) (Nat.le_of_ble_eq_true rfl) dL_act_218
      replace hR := yf_f c_188 hR
      cases hR
    · obtain ⟨w_190, ew_190, rfl, rfl⟩ := hp_182
      subst ew_190
      replace hR := ybr_r hR
      refine xr_perm C 7 [0, 2, 3, 4, 5, 6, 1] [] [[(x, .inr (6, [.ref xj, .ref xw, .ref xz, .ref xo, .ref xy, .ref xt]))], [(xj, .inr (1, [.ref xja, .ref xjb, .int xjr, .int xjk, .int xjc, .int xjg, .int xjs]))], [(xja, .inr (4, [.ref xjan]))], [(xjan, .inl (cy 1, 81, .inl xjaf))], [(xjb, .inr (4, [.ref xjbn]))], [(xjbn, .inl (cy 1, 81, .inl xjbf))], [(xw, .inr (0, [.ref xwu, .ref xwm, .int w_190.2.1, .int w_190.2.2]))]] rfl (by decide +kernel) rfl ?_
      refine xr_st (st' := [.int w_190.1]) rfl ?_
      refine xr_pop (n := 212) C dL_act_211 rfl rfl ?_
      refine xr_goto (tgt := 219) C dL_act_212 rfl ?_
      obtain rfl := Option.some.inj hR
      exact ret ⟨rfl, rfl⟩ (Nat.le_of_ble_eq_true rfl) (Nat.le_of_ble_eq_true rfl) dL_act_219
  refine xr_if_le (tgt := 207) (n := 203) C dL_act_200 rfl rfl (fun c_191 => ?_) (fun c_191 => ?_)
  · replace hE_178 := yf_t c_191 hE_178
    refine xr_iconst (n := 208) (v := 0) C dL_act_207 rfl rfl ?_
    refine xr_lv (lv' := []) [] rfl ?_
    have e_192 := Option.some.inj hE_178
    subst e_192
    exact J_178
  · replace hE_178 := yf_f c_191 hE_178
    refine xr_iconst (n := 204) (v := 1) C dL_act_203 rfl rfl ?_
    refine xr_goto (tgt := 208) C dL_act_204 rfl ?_
    refine xr_lv (lv' := []) [] rfl ?_
    have e_193 := Option.some.inj hE_178
    subst e_193
    exact J_178
