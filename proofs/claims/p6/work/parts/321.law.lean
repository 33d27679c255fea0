theorem u_84 : Cond.classLink RL 8 RX6 ∈ yU := yu 84 (by decide +kernel) (by decide +kernel)
theorem u_85 : Cond.instantiable RX6 6 ∈ yU := yu 85 (by decide +kernel) (by decide +kernel)
theorem u_86 : Cond.methodLink RL 86 yX6_init ∈ yU := yu 86 (by decide +kernel) (by decide +kernel)
theorem u_87 : Cond.instanceMethod yX6_init ∈ yU := yu 87 (by decide +kernel) (by decide +kernel)
theorem u_1188 : Cond.classLink RL 87 RX9 ∈ yU := yu 1188 (by decide +kernel) (by decide +kernel)
theorem u_1189 : Cond.instantiable RX9 17 ∈ yU := yu 1189 (by decide +kernel) (by decide +kernel)
theorem u_1190 : Cond.methodLink RL 89 yX9_init ∈ yU := yu 1190 (by decide +kernel) (by decide +kernel)
theorem u_1191 : Cond.instanceMethod yX9_init ∈ yU := yu 1191 (by decide +kernel) (by decide +kernel)
theorem u_550 : Cond.classLink RL 14 RX7 ∈ yU := yu 550 (by decide +kernel) (by decide +kernel)
theorem u_551 : Cond.instantiable RX7 2 ∈ yU := yu 551 (by decide +kernel) (by decide +kernel)
theorem u_553 : Cond.instanceMethod yX7_init ∈ yU := yu 553 (by decide +kernel) (by decide +kernel)
theorem u_563 : Cond.methodLink RL 91 yL_shape ∈ yU := yu 563 (by decide +kernel) (by decide +kernel)
theorem u_564 : Cond.static yL_shape ∈ yU := yu 564 (by decide +kernel) (by decide +kernel)
theorem u_1294 : Cond.methodLink RL 96 yX9_shape ∈ yU := yu 1294 (by decide +kernel) (by decide +kernel)
theorem u_1295 : Cond.instanceMethod yX9_shape ∈ yU := yu 1295 (by decide +kernel) (by decide +kernel)
theorem u_1296 : Cond.selects RX9 yX9_shape yX9_shape ∈ yU := yu 1296 (by decide +kernel) (by decide +kernel)
theorem u_651 : Cond.methodLink RL 97 yL_left ∈ yU := yu 651 (by decide +kernel) (by decide +kernel)
theorem u_652 : Cond.static yL_left ∈ yU := yu 652 (by decide +kernel) (by decide +kernel)
theorem u_1315 : Cond.methodLink RL 99 yX9_left ∈ yU := yu 1315 (by decide +kernel) (by decide +kernel)
theorem u_1316 : Cond.instanceMethod yX9_left ∈ yU := yu 1316 (by decide +kernel) (by decide +kernel)
theorem u_1317 : Cond.selects RX9 yX9_left yX9_left ∈ yU := yu 1317 (by decide +kernel) (by decide +kernel)
theorem u_683 : Cond.methodLink RL 100 yL_top ∈ yU := yu 683 (by decide +kernel) (by decide +kernel)
theorem u_684 : Cond.static yL_top ∈ yU := yu 684 (by decide +kernel) (by decide +kernel)
theorem u_1319 : Cond.methodLink RL 102 yX9_top ∈ yU := yu 1319 (by decide +kernel) (by decide +kernel)
theorem u_1320 : Cond.instanceMethod yX9_top ∈ yU := yu 1320 (by decide +kernel) (by decide +kernel)
theorem u_1321 : Cond.selects RX9 yX9_top yX9_top ∈ yU := yu 1321 (by decide +kernel) (by decide +kernel)
theorem u_691 : Cond.methodLink RL 103 yL_kind ∈ yU := yu 691 (by decide +kernel) (by decide +kernel)
theorem u_692 : Cond.static yL_kind ∈ yU := yu 692 (by decide +kernel) (by decide +kernel)
theorem u_1323 : Cond.methodLink RL 106 yX9_kind ∈ yU := yu 1323 (by decide +kernel) (by decide +kernel)
theorem u_1324 : Cond.instanceMethod yX9_kind ∈ yU := yu 1324 (by decide +kernel) (by decide +kernel)
theorem u_1325 : Cond.selects RX9 yX9_kind yX9_kind ∈ yU := yu 1325 (by decide +kernel) (by decide +kernel)
theorem u_699 : Cond.methodLink RL 107 yL_checked ∈ yU := yu 699 (by decide +kernel) (by decide +kernel)
theorem u_700 : Cond.static yL_checked ∈ yU := yu 700 (by decide +kernel) (by decide +kernel)
theorem u_1327 : Cond.methodLink RL 110 yX9_checked ∈ yU := yu 1327 (by decide +kernel) (by decide +kernel)
theorem u_1328 : Cond.instanceMethod yX9_checked ∈ yU := yu 1328 (by decide +kernel) (by decide +kernel)
theorem u_1329 : Cond.selects RX9 yX9_checked yX9_checked ∈ yU := yu 1329 (by decide +kernel) (by decide +kernel)
theorem u_1290 : Cond.methodLink RL 111 yX9_thrown ∈ yU := yu 1290 (by decide +kernel) (by decide +kernel)
theorem u_1291 : Cond.instanceMethod yX9_thrown ∈ yU := yu 1291 (by decide +kernel) (by decide +kernel)
theorem u_1292 : Cond.selects RX9 yX9_thrown yX9_thrown ∈ yU := yu 1292 (by decide +kernel) (by decide +kernel)
theorem u_723 : Cond.methodLink RL 114 yL_broken ∈ yU := yu 723 (by decide +kernel) (by decide +kernel)
theorem u_724 : Cond.static yL_broken ∈ yU := yu 724 (by decide +kernel) (by decide +kernel)
theorem u_1331 : Cond.methodLink RL 117 yX9_broken ∈ yU := yu 1331 (by decide +kernel) (by decide +kernel)
theorem u_1332 : Cond.instanceMethod yX9_broken ∈ yU := yu 1332 (by decide +kernel) (by decide +kernel)
theorem u_1333 : Cond.selects RX9 yX9_broken yX9_broken ∈ yU := yu 1333 (by decide +kernel) (by decide +kernel)
theorem u_738 : Cond.methodLink RL 118 yL_test ∈ yU := yu 738 (by decide +kernel) (by decide +kernel)
theorem u_739 : Cond.static yL_test ∈ yU := yu 739 (by decide +kernel) (by decide +kernel)
theorem u_1342 : Cond.methodLink RL 121 yX9_test ∈ yU := yu 1342 (by decide +kernel) (by decide +kernel)
theorem u_1343 : Cond.instanceMethod yX9_test ∈ yU := yu 1343 (by decide +kernel) (by decide +kernel)
theorem u_1344 : Cond.selects RX9 yX9_test yX9_test ∈ yU := yu 1344 (by decide +kernel) (by decide +kernel)
theorem u_751 : Cond.methodLink RL 122 yL_start ∈ yU := yu 751 (by decide +kernel) (by decide +kernel)
theorem u_752 : Cond.static yL_start ∈ yU := yu 752 (by decide +kernel) (by decide +kernel)
theorem u_1351 : Cond.methodLink RL 124 yX9_start_ ∈ yU := yu 1351 (by decide +kernel) (by decide +kernel)
theorem u_1352 : Cond.instanceMethod yX9_start_ ∈ yU := yu 1352 (by decide +kernel) (by decide +kernel)
theorem u_1353 : Cond.selects RX9 yX9_start_ yX9_start_ ∈ yU := yu 1353 (by decide +kernel) (by decide +kernel)
theorem u_787 : Cond.methodLink RL 125 yL_beat ∈ yU := yu 787 (by decide +kernel) (by decide +kernel)
theorem u_788 : Cond.static yL_beat ∈ yU := yu 788 (by decide +kernel) (by decide +kernel)
theorem u_1434 : Cond.methodLink RL 127 yX9_beat ∈ yU := yu 1434 (by decide +kernel) (by decide +kernel)
theorem u_1435 : Cond.instanceMethod yX9_beat ∈ yU := yu 1435 (by decide +kernel) (by decide +kernel)
theorem u_1436 : Cond.selects RX9 yX9_beat yX9_beat ∈ yU := yu 1436 (by decide +kernel) (by decide +kernel)
theorem u_829 : Cond.methodLink RL 128 yL_bend ∈ yU := yu 829 (by decide +kernel) (by decide +kernel)
theorem u_830 : Cond.static yL_bend ∈ yU := yu 830 (by decide +kernel) (by decide +kernel)
theorem u_1484 : Cond.methodLink RL 130 yX9_bend ∈ yU := yu 1484 (by decide +kernel) (by decide +kernel)
theorem u_1485 : Cond.instanceMethod yX9_bend ∈ yU := yu 1485 (by decide +kernel) (by decide +kernel)
theorem u_1486 : Cond.selects RX9 yX9_bend yX9_bend ∈ yU := yu 1486 (by decide +kernel) (by decide +kernel)
theorem u_842 : Cond.methodLink RL 131 yL_check ∈ yU := yu 842 (by decide +kernel) (by decide +kernel)
theorem u_843 : Cond.static yL_check ∈ yU := yu 843 (by decide +kernel) (by decide +kernel)
theorem u_1492 : Cond.methodLink RL 133 yX9_check ∈ yU := yu 1492 (by decide +kernel) (by decide +kernel)
theorem u_1493 : Cond.instanceMethod yX9_check ∈ yU := yu 1493 (by decide +kernel) (by decide +kernel)
theorem u_1494 : Cond.selects RX9 yX9_check yX9_check ∈ yU := yu 1494 (by decide +kernel) (by decide +kernel)
theorem u_868 : Cond.methodLink RL 134 yL_mesh ∈ yU := yu 868 (by decide +kernel) (by decide +kernel)
theorem u_869 : Cond.static yL_mesh ∈ yU := yu 869 (by decide +kernel) (by decide +kernel)
theorem u_1508 : Cond.methodLink RL 136 yX9_mesh ∈ yU := yu 1508 (by decide +kernel) (by decide +kernel)
theorem u_1509 : Cond.instanceMethod yX9_mesh ∈ yU := yu 1509 (by decide +kernel) (by decide +kernel)
theorem u_1510 : Cond.selects RX9 yX9_mesh yX9_mesh ∈ yU := yu 1510 (by decide +kernel) (by decide +kernel)
theorem u_876 : Cond.methodLink RL 137 yL_ofCell ∈ yU := yu 876 (by decide +kernel) (by decide +kernel)
theorem u_877 : Cond.static yL_ofCell ∈ yU := yu 877 (by decide +kernel) (by decide +kernel)
theorem u_1516 : Cond.methodLink RL 139 yX9_ofCell ∈ yU := yu 1516 (by decide +kernel) (by decide +kernel)
theorem u_1517 : Cond.instanceMethod yX9_ofCell ∈ yU := yu 1517 (by decide +kernel) (by decide +kernel)
theorem u_1518 : Cond.selects RX9 yX9_ofCell yX9_ofCell ∈ yU := yu 1518 (by decide +kernel) (by decide +kernel)
theorem u_884 : Cond.methodLink RL 140 yL_result ∈ yU := yu 884 (by decide +kernel) (by decide +kernel)
theorem u_885 : Cond.static yL_result ∈ yU := yu 885 (by decide +kernel) (by decide +kernel)
theorem u_1531 : Cond.methodLink RL 143 yX9_result ∈ yU := yu 1531 (by decide +kernel) (by decide +kernel)
theorem u_1532 : Cond.instanceMethod yX9_result ∈ yU := yu 1532 (by decide +kernel) (by decide +kernel)
theorem u_1533 : Cond.selects RX9 yX9_result yX9_result ∈ yU := yu 1533 (by decide +kernel) (by decide +kernel)
theorem u_891 : Cond.methodLink RL 144 yL_plain ∈ yU := yu 891 (by decide +kernel) (by decide +kernel)
theorem u_892 : Cond.static yL_plain ∈ yU := yu 892 (by decide +kernel) (by decide +kernel)
theorem u_1535 : Cond.methodLink RL 146 yX9_plain ∈ yU := yu 1535 (by decide +kernel) (by decide +kernel)
theorem u_1536 : Cond.instanceMethod yX9_plain ∈ yU := yu 1536 (by decide +kernel) (by decide +kernel)
theorem u_1537 : Cond.selects RX9 yX9_plain yX9_plain ∈ yU := yu 1537 (by decide +kernel) (by decide +kernel)
theorem u_899 : Cond.methodLink RL 147 yL_row ∈ yU := yu 899 (by decide +kernel) (by decide +kernel)
theorem u_900 : Cond.static yL_row ∈ yU := yu 900 (by decide +kernel) (by decide +kernel)
theorem u_1547 : Cond.methodLink RL 149 yX9_row ∈ yU := yu 1547 (by decide +kernel) (by decide +kernel)
theorem u_1548 : Cond.instanceMethod yX9_row ∈ yU := yu 1548 (by decide +kernel) (by decide +kernel)
theorem u_1549 : Cond.selects RX9 yX9_row yX9_row ∈ yU := yu 1549 (by decide +kernel) (by decide +kernel)
theorem u_1172 : Cond.methodLink RL 150 yL_beats ∈ yU := yu 1172 (by decide +kernel) (by decide +kernel)
theorem u_1173 : Cond.static yL_beats ∈ yU := yu 1173 (by decide +kernel) (by decide +kernel)
theorem u_1556 : Cond.methodLink RL 152 yX9_beats ∈ yU := yu 1556 (by decide +kernel) (by decide +kernel)
theorem u_1557 : Cond.instanceMethod yX9_beats ∈ yU := yu 1557 (by decide +kernel) (by decide +kernel)
theorem u_1558 : Cond.selects RX9 yX9_beats yX9_beats ∈ yU := yu 1558 (by decide +kernel) (by decide +kernel)
theorem u_1180 : Cond.methodLink RL 153 yL_best ∈ yU := yu 1180 (by decide +kernel) (by decide +kernel)
theorem u_1181 : Cond.static yL_best ∈ yU := yu 1181 (by decide +kernel) (by decide +kernel)
theorem u_1560 : Cond.methodLink RL 155 yX9_best ∈ yU := yu 1560 (by decide +kernel) (by decide +kernel)
theorem u_1561 : Cond.instanceMethod yX9_best ∈ yU := yu 1561 (by decide +kernel) (by decide +kernel)
theorem u_1562 : Cond.selects RX9 yX9_best yX9_best ∈ yU := yu 1562 (by decide +kernel) (by decide +kernel)
theorem u_308 : Cond.methodLink RL 156 yX6_saved ∈ yU := yu 308 (by decide +kernel) (by decide +kernel)
theorem u_309 : Cond.instanceMethod yX6_saved ∈ yU := yu 309 (by decide +kernel) (by decide +kernel)
theorem u_310 : Cond.selects RX6 yX6_saved yX6_saved ∈ yU := yu 310 (by decide +kernel) (by decide +kernel)
theorem u_1568 : Cond.methodLink RL 159 yX9_saved ∈ yU := yu 1568 (by decide +kernel) (by decide +kernel)
theorem u_1569 : Cond.instanceMethod yX9_saved ∈ yU := yu 1569 (by decide +kernel) (by decide +kernel)
theorem u_1570 : Cond.selects RX9 yX9_saved yX9_saved ∈ yU := yu 1570 (by decide +kernel) (by decide +kernel)
theorem u_391 : Cond.methodLink RL 160 yX6_isSound ∈ yU := yu 391 (by decide +kernel) (by decide +kernel)
theorem u_392 : Cond.instanceMethod yX6_isSound ∈ yU := yu 392 (by decide +kernel) (by decide +kernel)
theorem u_393 : Cond.selects RX6 yX6_isSound yX6_isSound ∈ yU := yu 393 (by decide +kernel) (by decide +kernel)
theorem u_1576 : Cond.methodLink RL 164 yX9_isSound ∈ yU := yu 1576 (by decide +kernel) (by decide +kernel)
theorem u_1577 : Cond.instanceMethod yX9_isSound ∈ yU := yu 1577 (by decide +kernel) (by decide +kernel)
theorem u_1578 : Cond.selects RX9 yX9_isSound yX9_isSound ∈ yU := yu 1578 (by decide +kernel) (by decide +kernel)
theorem u_456 : Cond.methodLink RL 165 yX6_digest ∈ yU := yu 456 (by decide +kernel) (by decide +kernel)
theorem u_457 : Cond.instanceMethod yX6_digest ∈ yU := yu 457 (by decide +kernel) (by decide +kernel)
theorem u_458 : Cond.selects RX6 yX6_digest yX6_digest ∈ yU := yu 458 (by decide +kernel) (by decide +kernel)
theorem u_1588 : Cond.methodLink RL 169 yX9_digest ∈ yU := yu 1588 (by decide +kernel) (by decide +kernel)
theorem u_1589 : Cond.instanceMethod yX9_digest ∈ yU := yu 1589 (by decide +kernel) (by decide +kernel)
theorem u_1590 : Cond.selects RX9 yX9_digest yX9_digest ∈ yU := yu 1590 (by decide +kernel) (by decide +kernel)
theorem dL_law_0 : decode cL_law 0 = .ok (.new 8, 3) := by decide +kernel
theorem dL_law_3 : decode cL_law 3 = .ok (.dup, 1) := by decide +kernel
theorem dL_law_4 : decode cL_law 4 = .ok (.invokespecial 86, 3) := by decide +kernel
theorem dL_law_7 : decode cL_law 7 = .ok (.astore_n 1, 1) := by decide +kernel
theorem dL_law_8 : decode cL_law 8 = .ok (.new 87, 3) := by decide +kernel
theorem dL_law_11 : decode cL_law 11 = .ok (.dup, 1) := by decide +kernel
theorem dL_law_12 : decode cL_law 12 = .ok (.invokespecial 89, 3) := by decide +kernel
theorem dL_law_15 : decode cL_law 15 = .ok (.astore_n 2, 1) := by decide +kernel
theorem dL_law_16 : decode cL_law 16 = .ok (.new 14, 3) := by decide +kernel
theorem dL_law_19 : decode cL_law 19 = .ok (.dup, 1) := by decide +kernel
theorem dL_law_20 : decode cL_law 20 = .ok (.invokespecial 90, 3) := by decide +kernel
theorem dL_law_23 : decode cL_law 23 = .ok (.astore_n 3, 1) := by decide +kernel
theorem dL_law_24 : decode cL_law 24 = .ok (.iconst 0, 1) := by decide +kernel
theorem dL_law_25 : decode cL_law 25 = .ok (.istore 4, 2) := by decide +kernel
theorem dL_law_27 : decode cL_law 27 = .ok (.iload 4, 2) := by decide +kernel
theorem dL_law_29 : decode cL_law 29 = .ok (.aload_n 0, 1) := by decide +kernel
theorem dL_law_30 : decode cL_law 30 = .ok (.arraylength, 1) := by decide +kernel
theorem dL_law_31 : decode cL_law 31 = .ok (.iconst 4, 1) := by decide +kernel
theorem dL_law_32 : decode cL_law 32 = .ok (.isub, 1) := by decide +kernel
theorem dL_law_33 : decode cL_law 33 = .ok (.if_icmp .gt 868, 3) := by decide +kernel
theorem dL_law_36 : decode cL_law 36 = .ok (.aload_n 0, 1) := by decide +kernel
theorem dL_law_37 : decode cL_law 37 = .ok (.iload 4, 2) := by decide +kernel
theorem dL_law_39 : decode cL_law 39 = .ok (.iaload, 1) := by decide +kernel
theorem dL_law_40 : decode cL_law 40 = .ok (.bipush 31, 2) := by decide +kernel
theorem dL_law_42 : decode cL_law 42 = .ok (.iand, 1) := by decide +kernel
theorem dL_law_43 : decode cL_law 43 = .ok (.tableswitch 852 0 20 #[97, 149, 201, 253, 281, 361, 429, 445, 461, 489, 541, 557, 585, 637, 677, 717, 745, 785, 813, 826, 839], 97) := by decide +kernel
theorem dL_law_140 : decode cL_law 140 = .ok (.aload_n 1, 1) := by decide +kernel
theorem dL_law_141 : decode cL_law 141 = .ok (.aload_n 0, 1) := by decide +kernel
theorem dL_law_142 : decode cL_law 142 = .ok (.iload 4, 2) := by decide +kernel
theorem dL_law_144 : decode cL_law 144 = .ok (.iconst 1, 1) := by decide +kernel
theorem dL_law_145 : decode cL_law 145 = .ok (.iadd, 1) := by decide +kernel
theorem dL_law_146 : decode cL_law 146 = .ok (.iaload, 1) := by decide +kernel
theorem dL_law_147 : decode cL_law 147 = .ok (.aload_n 0, 1) := by decide +kernel
theorem dL_law_148 : decode cL_law 148 = .ok (.iload 4, 2) := by decide +kernel
theorem dL_law_150 : decode cL_law 150 = .ok (.iconst 2, 1) := by decide +kernel
theorem dL_law_151 : decode cL_law 151 = .ok (.iadd, 1) := by decide +kernel
theorem dL_law_152 : decode cL_law 152 = .ok (.iaload, 1) := by decide +kernel
theorem dL_law_153 : decode cL_law 153 = .ok (.aload_n 0, 1) := by decide +kernel
theorem dL_law_154 : decode cL_law 154 = .ok (.iload 4, 2) := by decide +kernel
theorem dL_law_156 : decode cL_law 156 = .ok (.iconst 3, 1) := by decide +kernel
theorem dL_law_157 : decode cL_law 157 = .ok (.iadd, 1) := by decide +kernel
theorem dL_law_158 : decode cL_law 158 = .ok (.iaload, 1) := by decide +kernel
theorem dL_law_159 : decode cL_law 159 = .ok (.aload_n 3, 1) := by decide +kernel
theorem dL_law_160 : decode cL_law 160 = .ok (.invokestatic 91, 3) := by decide +kernel
theorem dL_law_163 : decode cL_law 163 = .ok (.istore 5, 2) := by decide +kernel
theorem dL_law_165 : decode cL_law 165 = .ok (.aload_n 2, 1) := by decide +kernel
theorem dL_law_166 : decode cL_law 166 = .ok (.aload_n 0, 1) := by decide +kernel
theorem dL_law_167 : decode cL_law 167 = .ok (.iload 4, 2) := by decide +kernel
theorem dL_law_169 : decode cL_law 169 = .ok (.iconst 1, 1) := by decide +kernel
theorem dL_law_170 : decode cL_law 170 = .ok (.iadd, 1) := by decide +kernel
theorem dL_law_171 : decode cL_law 171 = .ok (.iaload, 1) := by decide +kernel
theorem dL_law_172 : decode cL_law 172 = .ok (.aload_n 0, 1) := by decide +kernel
theorem dL_law_173 : decode cL_law 173 = .ok (.iload 4, 2) := by decide +kernel
theorem dL_law_175 : decode cL_law 175 = .ok (.iconst 2, 1) := by decide +kernel
theorem dL_law_176 : decode cL_law 176 = .ok (.iadd, 1) := by decide +kernel
theorem dL_law_177 : decode cL_law 177 = .ok (.iaload, 1) := by decide +kernel
theorem dL_law_178 : decode cL_law 178 = .ok (.aload_n 0, 1) := by decide +kernel
theorem dL_law_179 : decode cL_law 179 = .ok (.iload 4, 2) := by decide +kernel
theorem dL_law_181 : decode cL_law 181 = .ok (.iconst 3, 1) := by decide +kernel
theorem dL_law_182 : decode cL_law 182 = .ok (.iadd, 1) := by decide +kernel
theorem dL_law_183 : decode cL_law 183 = .ok (.iaload, 1) := by decide +kernel
theorem dL_law_184 : decode cL_law 184 = .ok (.invokevirtual 96, 3) := by decide +kernel
theorem dL_law_187 : decode cL_law 187 = .ok (.istore 6, 2) := by decide +kernel
theorem dL_law_189 : decode cL_law 189 = .ok (.goto 706, 3) := by decide +kernel
theorem dL_law_192 : decode cL_law 192 = .ok (.aload_n 1, 1) := by decide +kernel
theorem dL_law_193 : decode cL_law 193 = .ok (.aload_n 0, 1) := by decide +kernel
theorem dL_law_194 : decode cL_law 194 = .ok (.iload 4, 2) := by decide +kernel
theorem dL_law_196 : decode cL_law 196 = .ok (.iconst 1, 1) := by decide +kernel
theorem dL_law_197 : decode cL_law 197 = .ok (.iadd, 1) := by decide +kernel
theorem dL_law_198 : decode cL_law 198 = .ok (.iaload, 1) := by decide +kernel
theorem dL_law_199 : decode cL_law 199 = .ok (.aload_n 0, 1) := by decide +kernel
theorem dL_law_200 : decode cL_law 200 = .ok (.iload 4, 2) := by decide +kernel
theorem dL_law_202 : decode cL_law 202 = .ok (.iconst 2, 1) := by decide +kernel
theorem dL_law_203 : decode cL_law 203 = .ok (.iadd, 1) := by decide +kernel
theorem dL_law_204 : decode cL_law 204 = .ok (.iaload, 1) := by decide +kernel
theorem dL_law_205 : decode cL_law 205 = .ok (.aload_n 0, 1) := by decide +kernel
theorem dL_law_206 : decode cL_law 206 = .ok (.iload 4, 2) := by decide +kernel
theorem dL_law_208 : decode cL_law 208 = .ok (.iconst 3, 1) := by decide +kernel
theorem dL_law_209 : decode cL_law 209 = .ok (.iadd, 1) := by decide +kernel
theorem dL_law_210 : decode cL_law 210 = .ok (.iaload, 1) := by decide +kernel
theorem dL_law_211 : decode cL_law 211 = .ok (.aload_n 3, 1) := by decide +kernel
theorem dL_law_212 : decode cL_law 212 = .ok (.invokestatic 97, 3) := by decide +kernel
theorem dL_law_215 : decode cL_law 215 = .ok (.istore 5, 2) := by decide +kernel
theorem dL_law_217 : decode cL_law 217 = .ok (.aload_n 2, 1) := by decide +kernel
theorem dL_law_218 : decode cL_law 218 = .ok (.aload_n 0, 1) := by decide +kernel
theorem dL_law_219 : decode cL_law 219 = .ok (.iload 4, 2) := by decide +kernel
theorem dL_law_221 : decode cL_law 221 = .ok (.iconst 1, 1) := by decide +kernel
theorem dL_law_222 : decode cL_law 222 = .ok (.iadd, 1) := by decide +kernel
theorem dL_law_223 : decode cL_law 223 = .ok (.iaload, 1) := by decide +kernel
theorem dL_law_224 : decode cL_law 224 = .ok (.aload_n 0, 1) := by decide +kernel
theorem dL_law_225 : decode cL_law 225 = .ok (.iload 4, 2) := by decide +kernel
theorem dL_law_227 : decode cL_law 227 = .ok (.iconst 2, 1) := by decide +kernel
theorem dL_law_228 : decode cL_law 228 = .ok (.iadd, 1) := by decide +kernel
theorem dL_law_229 : decode cL_law 229 = .ok (.iaload, 1) := by decide +kernel
theorem dL_law_230 : decode cL_law 230 = .ok (.aload_n 0, 1) := by decide +kernel
theorem dL_law_231 : decode cL_law 231 = .ok (.iload 4, 2) := by decide +kernel
theorem dL_law_233 : decode cL_law 233 = .ok (.iconst 3, 1) := by decide +kernel
theorem dL_law_234 : decode cL_law 234 = .ok (.iadd, 1) := by decide +kernel
theorem dL_law_235 : decode cL_law 235 = .ok (.iaload, 1) := by decide +kernel
theorem dL_law_236 : decode cL_law 236 = .ok (.invokevirtual 99, 3) := by decide +kernel
theorem dL_law_239 : decode cL_law 239 = .ok (.istore 6, 2) := by decide +kernel
theorem dL_law_241 : decode cL_law 241 = .ok (.goto 654, 3) := by decide +kernel
theorem dL_law_244 : decode cL_law 244 = .ok (.aload_n 1, 1) := by decide +kernel
theorem dL_law_245 : decode cL_law 245 = .ok (.aload_n 0, 1) := by decide +kernel
theorem dL_law_246 : decode cL_law 246 = .ok (.iload 4, 2) := by decide +kernel
theorem dL_law_248 : decode cL_law 248 = .ok (.iconst 1, 1) := by decide +kernel
theorem dL_law_249 : decode cL_law 249 = .ok (.iadd, 1) := by decide +kernel
theorem dL_law_250 : decode cL_law 250 = .ok (.iaload, 1) := by decide +kernel
theorem dL_law_251 : decode cL_law 251 = .ok (.aload_n 0, 1) := by decide +kernel
theorem dL_law_252 : decode cL_law 252 = .ok (.iload 4, 2) := by decide +kernel
theorem dL_law_254 : decode cL_law 254 = .ok (.iconst 2, 1) := by decide +kernel
theorem dL_law_255 : decode cL_law 255 = .ok (.iadd, 1) := by decide +kernel
theorem dL_law_256 : decode cL_law 256 = .ok (.iaload, 1) := by decide +kernel
theorem dL_law_257 : decode cL_law 257 = .ok (.aload_n 0, 1) := by decide +kernel
theorem dL_law_258 : decode cL_law 258 = .ok (.iload 4, 2) := by decide +kernel
theorem dL_law_260 : decode cL_law 260 = .ok (.iconst 3, 1) := by decide +kernel
theorem dL_law_261 : decode cL_law 261 = .ok (.iadd, 1) := by decide +kernel
theorem dL_law_262 : decode cL_law 262 = .ok (.iaload, 1) := by decide +kernel
theorem dL_law_263 : decode cL_law 263 = .ok (.aload_n 3, 1) := by decide +kernel
theorem dL_law_264 : decode cL_law 264 = .ok (.invokestatic 100, 3) := by decide +kernel
theorem dL_law_267 : decode cL_law 267 = .ok (.istore 5, 2) := by decide +kernel
theorem dL_law_269 : decode cL_law 269 = .ok (.aload_n 2, 1) := by decide +kernel
theorem dL_law_270 : decode cL_law 270 = .ok (.aload_n 0, 1) := by decide +kernel
theorem dL_law_271 : decode cL_law 271 = .ok (.iload 4, 2) := by decide +kernel
theorem dL_law_273 : decode cL_law 273 = .ok (.iconst 1, 1) := by decide +kernel
theorem dL_law_274 : decode cL_law 274 = .ok (.iadd, 1) := by decide +kernel
theorem dL_law_275 : decode cL_law 275 = .ok (.iaload, 1) := by decide +kernel
theorem dL_law_276 : decode cL_law 276 = .ok (.aload_n 0, 1) := by decide +kernel
theorem dL_law_277 : decode cL_law 277 = .ok (.iload 4, 2) := by decide +kernel
theorem dL_law_279 : decode cL_law 279 = .ok (.iconst 2, 1) := by decide +kernel
theorem dL_law_280 : decode cL_law 280 = .ok (.iadd, 1) := by decide +kernel
theorem dL_law_281 : decode cL_law 281 = .ok (.iaload, 1) := by decide +kernel
theorem dL_law_282 : decode cL_law 282 = .ok (.aload_n 0, 1) := by decide +kernel
theorem dL_law_283 : decode cL_law 283 = .ok (.iload 4, 2) := by decide +kernel
theorem dL_law_285 : decode cL_law 285 = .ok (.iconst 3, 1) := by decide +kernel
theorem dL_law_286 : decode cL_law 286 = .ok (.iadd, 1) := by decide +kernel
theorem dL_law_287 : decode cL_law 287 = .ok (.iaload, 1) := by decide +kernel
theorem dL_law_288 : decode cL_law 288 = .ok (.invokevirtual 102, 3) := by decide +kernel
theorem dL_law_291 : decode cL_law 291 = .ok (.istore 6, 2) := by decide +kernel
theorem dL_law_293 : decode cL_law 293 = .ok (.goto 602, 3) := by decide +kernel
theorem dL_law_296 : decode cL_law 296 = .ok (.aload_n 1, 1) := by decide +kernel
theorem dL_law_297 : decode cL_law 297 = .ok (.aload_n 0, 1) := by decide +kernel
theorem dL_law_298 : decode cL_law 298 = .ok (.iload 4, 2) := by decide +kernel
theorem dL_law_300 : decode cL_law 300 = .ok (.iconst 1, 1) := by decide +kernel
theorem dL_law_301 : decode cL_law 301 = .ok (.iadd, 1) := by decide +kernel
theorem dL_law_302 : decode cL_law 302 = .ok (.iaload, 1) := by decide +kernel
theorem dL_law_303 : decode cL_law 303 = .ok (.aload_n 3, 1) := by decide +kernel
theorem dL_law_304 : decode cL_law 304 = .ok (.invokestatic 103, 3) := by decide +kernel
theorem dL_law_307 : decode cL_law 307 = .ok (.istore 5, 2) := by decide +kernel
theorem dL_law_309 : decode cL_law 309 = .ok (.aload_n 2, 1) := by decide +kernel
theorem dL_law_310 : decode cL_law 310 = .ok (.aload_n 0, 1) := by decide +kernel
theorem dL_law_311 : decode cL_law 311 = .ok (.iload 4, 2) := by decide +kernel
theorem dL_law_313 : decode cL_law 313 = .ok (.iconst 1, 1) := by decide +kernel
theorem dL_law_314 : decode cL_law 314 = .ok (.iadd, 1) := by decide +kernel
theorem dL_law_315 : decode cL_law 315 = .ok (.iaload, 1) := by decide +kernel
theorem dL_law_316 : decode cL_law 316 = .ok (.invokevirtual 106, 3) := by decide +kernel
theorem dL_law_319 : decode cL_law 319 = .ok (.istore 6, 2) := by decide +kernel
theorem dL_law_321 : decode cL_law 321 = .ok (.goto 574, 3) := by decide +kernel
theorem dL_law_324 : decode cL_law 324 = .ok (.aload_n 1, 1) := by decide +kernel
theorem dL_law_325 : decode cL_law 325 = .ok (.aload_n 0, 1) := by decide +kernel
theorem dL_law_326 : decode cL_law 326 = .ok (.iload 4, 2) := by decide +kernel
theorem dL_law_328 : decode cL_law 328 = .ok (.iconst 1, 1) := by decide +kernel
theorem dL_law_329 : decode cL_law 329 = .ok (.iadd, 1) := by decide +kernel
theorem dL_law_330 : decode cL_law 330 = .ok (.iaload, 1) := by decide +kernel
theorem dL_law_331 : decode cL_law 331 = .ok (.ifCond .eq 7, 3) := by decide +kernel
theorem dL_law_334 : decode cL_law 334 = .ok (.iconst 1, 1) := by decide +kernel
theorem dL_law_335 : decode cL_law 335 = .ok (.goto 4, 3) := by decide +kernel
theorem dL_law_338 : decode cL_law 338 = .ok (.iconst 0, 1) := by decide +kernel
theorem dL_law_339 : decode cL_law 339 = .ok (.aload_n 3, 1) := by decide +kernel
theorem dL_law_340 : decode cL_law 340 = .ok (.invokestatic 107, 3) := by decide +kernel
theorem dL_law_343 : decode cL_law 343 = .ok (.istore 5, 2) := by decide +kernel
theorem dL_law_345 : decode cL_law 345 = .ok (.aload_n 2, 1) := by decide +kernel
theorem dL_law_346 : decode cL_law 346 = .ok (.aload_n 0, 1) := by decide +kernel
theorem dL_law_347 : decode cL_law 347 = .ok (.iload 4, 2) := by decide +kernel
theorem dL_law_349 : decode cL_law 349 = .ok (.iconst 1, 1) := by decide +kernel
theorem dL_law_350 : decode cL_law 350 = .ok (.iadd, 1) := by decide +kernel
theorem dL_law_351 : decode cL_law 351 = .ok (.iaload, 1) := by decide +kernel
theorem dL_law_352 : decode cL_law 352 = .ok (.ifCond .eq 7, 3) := by decide +kernel
theorem dL_law_355 : decode cL_law 355 = .ok (.iconst 1, 1) := by decide +kernel
theorem dL_law_356 : decode cL_law 356 = .ok (.goto 4, 3) := by decide +kernel
theorem dL_law_359 : decode cL_law 359 = .ok (.iconst 0, 1) := by decide +kernel
theorem dL_law_360 : decode cL_law 360 = .ok (.invokevirtual 110, 3) := by decide +kernel
theorem dL_law_363 : decode cL_law 363 = .ok (.istore 6, 2) := by decide +kernel
theorem dL_law_365 : decode cL_law 365 = .ok (.aload_n 2, 1) := by decide +kernel
theorem dL_law_366 : decode cL_law 366 = .ok (.invokevirtual 111, 3) := by decide +kernel
theorem dL_law_369 : decode cL_law 369 = .ok (.iload 5, 2) := by decide +kernel
theorem dL_law_371 : decode cL_law 371 = .ok (.if_icmp .eq 5, 3) := by decide +kernel
theorem dL_law_374 : decode cL_law 374 = .ok (.iconst 0, 1) := by decide +kernel
theorem dL_law_375 : decode cL_law 375 = .ok (.ireturn, 1) := by decide +kernel
theorem dL_law_376 : decode cL_law 376 = .ok (.iload 5, 2) := by decide +kernel
theorem dL_law_378 : decode cL_law 378 = .ok (.ifCond .ne 23, 3) := by decide +kernel
theorem dL_law_381 : decode cL_law 381 = .ok (.aload_n 3, 1) := by decide +kernel
theorem dL_law_382 : decode cL_law 382 = .ok (.getfield 13, 3) := by decide +kernel
theorem dL_law_385 : decode cL_law 385 = .ok (.iload 6, 2) := by decide +kernel
theorem dL_law_387 : decode cL_law 387 = .ok (.ifCond .eq 7, 3) := by decide +kernel
theorem dL_law_390 : decode cL_law 390 = .ok (.lconst 1, 1) := by decide +kernel
theorem dL_law_391 : decode cL_law 391 = .ok (.goto 4, 3) := by decide +kernel
theorem dL_law_394 : decode cL_law 394 = .ok (.lconst 0, 1) := by decide +kernel
theorem dL_law_395 : decode cL_law 395 = .ok (.lcmp, 1) := by decide +kernel
theorem dL_law_396 : decode cL_law 396 = .ok (.ifCond .eq 5, 3) := by decide +kernel
theorem dL_law_399 : decode cL_law 399 = .ok (.iconst 0, 1) := by decide +kernel
theorem dL_law_400 : decode cL_law 400 = .ok (.ireturn, 1) := by decide +kernel
theorem dL_law_401 : decode cL_law 401 = .ok (.goto 494, 3) := by decide +kernel
theorem dL_law_404 : decode cL_law 404 = .ok (.aload_n 1, 1) := by decide +kernel
theorem dL_law_405 : decode cL_law 405 = .ok (.aload_n 0, 1) := by decide +kernel
theorem dL_law_406 : decode cL_law 406 = .ok (.iload 4, 2) := by decide +kernel
theorem dL_law_408 : decode cL_law 408 = .ok (.iconst 1, 1) := by decide +kernel
theorem dL_law_409 : decode cL_law 409 = .ok (.iadd, 1) := by decide +kernel
theorem dL_law_410 : decode cL_law 410 = .ok (.iaload, 1) := by decide +kernel
theorem dL_law_411 : decode cL_law 411 = .ok (.aload_n 0, 1) := by decide +kernel
theorem dL_law_412 : decode cL_law 412 = .ok (.iload 4, 2) := by decide +kernel
theorem dL_law_414 : decode cL_law 414 = .ok (.iconst 2, 1) := by decide +kernel
theorem dL_law_415 : decode cL_law 415 = .ok (.iadd, 1) := by decide +kernel
theorem dL_law_416 : decode cL_law 416 = .ok (.iaload, 1) := by decide +kernel
theorem dL_law_417 : decode cL_law 417 = .ok (.aload_n 0, 1) := by decide +kernel
theorem dL_law_418 : decode cL_law 418 = .ok (.iload 4, 2) := by decide +kernel
theorem dL_law_420 : decode cL_law 420 = .ok (.iconst 3, 1) := by decide +kernel
theorem dL_law_421 : decode cL_law 421 = .ok (.iadd, 1) := by decide +kernel
theorem dL_law_422 : decode cL_law 422 = .ok (.iaload, 1) := by decide +kernel
theorem dL_law_423 : decode cL_law 423 = .ok (.ifCond .eq 7, 3) := by decide +kernel
theorem dL_law_426 : decode cL_law 426 = .ok (.iconst 1, 1) := by decide +kernel
theorem dL_law_427 : decode cL_law 427 = .ok (.goto 4, 3) := by decide +kernel
theorem dL_law_430 : decode cL_law 430 = .ok (.iconst 0, 1) := by decide +kernel
theorem dL_law_431 : decode cL_law 431 = .ok (.aload_n 3, 1) := by decide +kernel
theorem dL_law_432 : decode cL_law 432 = .ok (.invokestatic 114, 3) := by decide +kernel
theorem dL_law_435 : decode cL_law 435 = .ok (.istore 5, 2) := by decide +kernel
theorem dL_law_437 : decode cL_law 437 = .ok (.aload_n 2, 1) := by decide +kernel
theorem dL_law_438 : decode cL_law 438 = .ok (.aload_n 0, 1) := by decide +kernel
theorem dL_law_439 : decode cL_law 439 = .ok (.iload 4, 2) := by decide +kernel
theorem dL_law_441 : decode cL_law 441 = .ok (.iconst 1, 1) := by decide +kernel
theorem dL_law_442 : decode cL_law 442 = .ok (.iadd, 1) := by decide +kernel
theorem dL_law_443 : decode cL_law 443 = .ok (.iaload, 1) := by decide +kernel
theorem dL_law_444 : decode cL_law 444 = .ok (.aload_n 0, 1) := by decide +kernel
theorem dL_law_445 : decode cL_law 445 = .ok (.iload 4, 2) := by decide +kernel
theorem dL_law_447 : decode cL_law 447 = .ok (.iconst 2, 1) := by decide +kernel
theorem dL_law_448 : decode cL_law 448 = .ok (.iadd, 1) := by decide +kernel
theorem dL_law_449 : decode cL_law 449 = .ok (.iaload, 1) := by decide +kernel
theorem dL_law_450 : decode cL_law 450 = .ok (.aload_n 0, 1) := by decide +kernel
theorem dL_law_451 : decode cL_law 451 = .ok (.iload 4, 2) := by decide +kernel
theorem dL_law_453 : decode cL_law 453 = .ok (.iconst 3, 1) := by decide +kernel
theorem dL_law_454 : decode cL_law 454 = .ok (.iadd, 1) := by decide +kernel
theorem dL_law_455 : decode cL_law 455 = .ok (.iaload, 1) := by decide +kernel
theorem dL_law_456 : decode cL_law 456 = .ok (.ifCond .eq 7, 3) := by decide +kernel
theorem dL_law_459 : decode cL_law 459 = .ok (.iconst 1, 1) := by decide +kernel
theorem dL_law_460 : decode cL_law 460 = .ok (.goto 4, 3) := by decide +kernel
theorem dL_law_463 : decode cL_law 463 = .ok (.iconst 0, 1) := by decide +kernel
theorem dL_law_464 : decode cL_law 464 = .ok (.invokevirtual 117, 3) := by decide +kernel
theorem dL_law_467 : decode cL_law 467 = .ok (.istore 6, 2) := by decide +kernel
theorem dL_law_469 : decode cL_law 469 = .ok (.goto 426, 3) := by decide +kernel
theorem dL_law_472 : decode cL_law 472 = .ok (.aload_n 1, 1) := by decide +kernel
theorem dL_law_473 : decode cL_law 473 = .ok (.aload_n 3, 1) := by decide +kernel
theorem dL_law_474 : decode cL_law 474 = .ok (.invokestatic 118, 3) := by decide +kernel
theorem dL_law_477 : decode cL_law 477 = .ok (.istore 5, 2) := by decide +kernel
theorem dL_law_479 : decode cL_law 479 = .ok (.aload_n 2, 1) := by decide +kernel
theorem dL_law_480 : decode cL_law 480 = .ok (.invokevirtual 121, 3) := by decide +kernel
theorem dL_law_483 : decode cL_law 483 = .ok (.istore 6, 2) := by decide +kernel
theorem dL_law_485 : decode cL_law 485 = .ok (.goto 410, 3) := by decide +kernel
theorem dL_law_488 : decode cL_law 488 = .ok (.aload_n 1, 1) := by decide +kernel
theorem dL_law_489 : decode cL_law 489 = .ok (.aload_n 3, 1) := by decide +kernel
theorem dL_law_490 : decode cL_law 490 = .ok (.invokestatic 122, 3) := by decide +kernel
theorem dL_law_493 : decode cL_law 493 = .ok (.istore 5, 2) := by decide +kernel
theorem dL_law_495 : decode cL_law 495 = .ok (.aload_n 2, 1) := by decide +kernel
theorem dL_law_496 : decode cL_law 496 = .ok (.invokevirtual 124, 3) := by decide +kernel
theorem dL_law_499 : decode cL_law 499 = .ok (.istore 6, 2) := by decide +kernel
theorem dL_law_501 : decode cL_law 501 = .ok (.goto 394, 3) := by decide +kernel
theorem dL_law_504 : decode cL_law 504 = .ok (.aload_n 1, 1) := by decide +kernel
theorem dL_law_505 : decode cL_law 505 = .ok (.aload_n 0, 1) := by decide +kernel
theorem dL_law_506 : decode cL_law 506 = .ok (.iload 4, 2) := by decide +kernel
theorem dL_law_508 : decode cL_law 508 = .ok (.iconst 1, 1) := by decide +kernel
theorem dL_law_509 : decode cL_law 509 = .ok (.iadd, 1) := by decide +kernel
theorem dL_law_510 : decode cL_law 510 = .ok (.iaload, 1) := by decide +kernel
theorem dL_law_511 : decode cL_law 511 = .ok (.aload_n 3, 1) := by decide +kernel
theorem dL_law_512 : decode cL_law 512 = .ok (.invokestatic 125, 3) := by decide +kernel
theorem dL_law_515 : decode cL_law 515 = .ok (.istore 5, 2) := by decide +kernel
theorem dL_law_517 : decode cL_law 517 = .ok (.aload_n 2, 1) := by decide +kernel
theorem dL_law_518 : decode cL_law 518 = .ok (.aload_n 0, 1) := by decide +kernel
theorem dL_law_519 : decode cL_law 519 = .ok (.iload 4, 2) := by decide +kernel
theorem dL_law_521 : decode cL_law 521 = .ok (.iconst 1, 1) := by decide +kernel
theorem dL_law_522 : decode cL_law 522 = .ok (.iadd, 1) := by decide +kernel
theorem dL_law_523 : decode cL_law 523 = .ok (.iaload, 1) := by decide +kernel
theorem dL_law_524 : decode cL_law 524 = .ok (.invokevirtual 127, 3) := by decide +kernel
theorem dL_law_527 : decode cL_law 527 = .ok (.istore 6, 2) := by decide +kernel
theorem dL_law_529 : decode cL_law 529 = .ok (.goto 366, 3) := by decide +kernel
theorem dL_law_532 : decode cL_law 532 = .ok (.aload_n 1, 1) := by decide +kernel
theorem dL_law_533 : decode cL_law 533 = .ok (.aload_n 0, 1) := by decide +kernel
theorem dL_law_534 : decode cL_law 534 = .ok (.iload 4, 2) := by decide +kernel
theorem dL_law_536 : decode cL_law 536 = .ok (.iconst 1, 1) := by decide +kernel
theorem dL_law_537 : decode cL_law 537 = .ok (.iadd, 1) := by decide +kernel
theorem dL_law_538 : decode cL_law 538 = .ok (.iaload, 1) := by decide +kernel
theorem dL_law_539 : decode cL_law 539 = .ok (.aload_n 0, 1) := by decide +kernel
theorem dL_law_540 : decode cL_law 540 = .ok (.iload 4, 2) := by decide +kernel
theorem dL_law_542 : decode cL_law 542 = .ok (.iconst 2, 1) := by decide +kernel
theorem dL_law_543 : decode cL_law 543 = .ok (.iadd, 1) := by decide +kernel
theorem dL_law_544 : decode cL_law 544 = .ok (.iaload, 1) := by decide +kernel
theorem dL_law_545 : decode cL_law 545 = .ok (.aload_n 0, 1) := by decide +kernel
theorem dL_law_546 : decode cL_law 546 = .ok (.iload 4, 2) := by decide +kernel
theorem dL_law_548 : decode cL_law 548 = .ok (.iconst 3, 1) := by decide +kernel
theorem dL_law_549 : decode cL_law 549 = .ok (.iadd, 1) := by decide +kernel
theorem dL_law_550 : decode cL_law 550 = .ok (.iaload, 1) := by decide +kernel
theorem dL_law_551 : decode cL_law 551 = .ok (.aload_n 3, 1) := by decide +kernel
theorem dL_law_552 : decode cL_law 552 = .ok (.invokestatic 128, 3) := by decide +kernel
theorem dL_law_555 : decode cL_law 555 = .ok (.istore 5, 2) := by decide +kernel
theorem dL_law_557 : decode cL_law 557 = .ok (.aload_n 2, 1) := by decide +kernel
theorem dL_law_558 : decode cL_law 558 = .ok (.aload_n 0, 1) := by decide +kernel
theorem dL_law_559 : decode cL_law 559 = .ok (.iload 4, 2) := by decide +kernel
theorem dL_law_561 : decode cL_law 561 = .ok (.iconst 1, 1) := by decide +kernel
theorem dL_law_562 : decode cL_law 562 = .ok (.iadd, 1) := by decide +kernel
theorem dL_law_563 : decode cL_law 563 = .ok (.iaload, 1) := by decide +kernel
theorem dL_law_564 : decode cL_law 564 = .ok (.aload_n 0, 1) := by decide +kernel
theorem dL_law_565 : decode cL_law 565 = .ok (.iload 4, 2) := by decide +kernel
theorem dL_law_567 : decode cL_law 567 = .ok (.iconst 2, 1) := by decide +kernel
theorem dL_law_568 : decode cL_law 568 = .ok (.iadd, 1) := by decide +kernel
theorem dL_law_569 : decode cL_law 569 = .ok (.iaload, 1) := by decide +kernel
theorem dL_law_570 : decode cL_law 570 = .ok (.aload_n 0, 1) := by decide +kernel
theorem dL_law_571 : decode cL_law 571 = .ok (.iload 4, 2) := by decide +kernel
theorem dL_law_573 : decode cL_law 573 = .ok (.iconst 3, 1) := by decide +kernel
theorem dL_law_574 : decode cL_law 574 = .ok (.iadd, 1) := by decide +kernel
theorem dL_law_575 : decode cL_law 575 = .ok (.iaload, 1) := by decide +kernel
theorem dL_law_576 : decode cL_law 576 = .ok (.invokevirtual 130, 3) := by decide +kernel
theorem dL_law_579 : decode cL_law 579 = .ok (.istore 6, 2) := by decide +kernel
theorem dL_law_581 : decode cL_law 581 = .ok (.goto 314, 3) := by decide +kernel
theorem dL_law_584 : decode cL_law 584 = .ok (.aload_n 1, 1) := by decide +kernel
theorem dL_law_585 : decode cL_law 585 = .ok (.aload_n 3, 1) := by decide +kernel
theorem dL_law_586 : decode cL_law 586 = .ok (.invokestatic 131, 3) := by decide +kernel
theorem dL_law_589 : decode cL_law 589 = .ok (.istore 5, 2) := by decide +kernel
theorem dL_law_591 : decode cL_law 591 = .ok (.aload_n 2, 1) := by decide +kernel
theorem dL_law_592 : decode cL_law 592 = .ok (.invokevirtual 133, 3) := by decide +kernel
theorem dL_law_595 : decode cL_law 595 = .ok (.istore 6, 2) := by decide +kernel
theorem dL_law_597 : decode cL_law 597 = .ok (.goto 298, 3) := by decide +kernel
theorem dL_law_600 : decode cL_law 600 = .ok (.aload_n 1, 1) := by decide +kernel
theorem dL_law_601 : decode cL_law 601 = .ok (.aload_n 0, 1) := by decide +kernel
theorem dL_law_602 : decode cL_law 602 = .ok (.iload 4, 2) := by decide +kernel
theorem dL_law_604 : decode cL_law 604 = .ok (.iconst 1, 1) := by decide +kernel
theorem dL_law_605 : decode cL_law 605 = .ok (.iadd, 1) := by decide +kernel
theorem dL_law_606 : decode cL_law 606 = .ok (.iaload, 1) := by decide +kernel
theorem dL_law_607 : decode cL_law 607 = .ok (.aload_n 3, 1) := by decide +kernel
theorem dL_law_608 : decode cL_law 608 = .ok (.invokestatic 134, 3) := by decide +kernel
theorem dL_law_611 : decode cL_law 611 = .ok (.istore 5, 2) := by decide +kernel
theorem dL_law_613 : decode cL_law 613 = .ok (.aload_n 2, 1) := by decide +kernel
theorem dL_law_614 : decode cL_law 614 = .ok (.aload_n 0, 1) := by decide +kernel
theorem dL_law_615 : decode cL_law 615 = .ok (.iload 4, 2) := by decide +kernel
theorem dL_law_617 : decode cL_law 617 = .ok (.iconst 1, 1) := by decide +kernel
theorem dL_law_618 : decode cL_law 618 = .ok (.iadd, 1) := by decide +kernel
theorem dL_law_619 : decode cL_law 619 = .ok (.iaload, 1) := by decide +kernel
theorem dL_law_620 : decode cL_law 620 = .ok (.invokevirtual 136, 3) := by decide +kernel
theorem dL_law_623 : decode cL_law 623 = .ok (.istore 6, 2) := by decide +kernel
theorem dL_law_625 : decode cL_law 625 = .ok (.goto 270, 3) := by decide +kernel
theorem dL_law_628 : decode cL_law 628 = .ok (.aload_n 1, 1) := by decide +kernel
theorem dL_law_629 : decode cL_law 629 = .ok (.aload_n 0, 1) := by decide +kernel
theorem dL_law_630 : decode cL_law 630 = .ok (.iload 4, 2) := by decide +kernel
theorem dL_law_632 : decode cL_law 632 = .ok (.iconst 1, 1) := by decide +kernel
theorem dL_law_633 : decode cL_law 633 = .ok (.iadd, 1) := by decide +kernel
theorem dL_law_634 : decode cL_law 634 = .ok (.iaload, 1) := by decide +kernel
theorem dL_law_635 : decode cL_law 635 = .ok (.aload_n 0, 1) := by decide +kernel
theorem dL_law_636 : decode cL_law 636 = .ok (.iload 4, 2) := by decide +kernel
theorem dL_law_638 : decode cL_law 638 = .ok (.iconst 2, 1) := by decide +kernel
theorem dL_law_639 : decode cL_law 639 = .ok (.iadd, 1) := by decide +kernel
theorem dL_law_640 : decode cL_law 640 = .ok (.iaload, 1) := by decide +kernel
theorem dL_law_641 : decode cL_law 641 = .ok (.aload_n 0, 1) := by decide +kernel
theorem dL_law_642 : decode cL_law 642 = .ok (.iload 4, 2) := by decide +kernel
theorem dL_law_644 : decode cL_law 644 = .ok (.iconst 3, 1) := by decide +kernel
theorem dL_law_645 : decode cL_law 645 = .ok (.iadd, 1) := by decide +kernel
theorem dL_law_646 : decode cL_law 646 = .ok (.iaload, 1) := by decide +kernel
theorem dL_law_647 : decode cL_law 647 = .ok (.aload_n 3, 1) := by decide +kernel
theorem dL_law_648 : decode cL_law 648 = .ok (.invokestatic 137, 3) := by decide +kernel
theorem dL_law_651 : decode cL_law 651 = .ok (.istore 5, 2) := by decide +kernel
theorem dL_law_653 : decode cL_law 653 = .ok (.aload_n 2, 1) := by decide +kernel
theorem dL_law_654 : decode cL_law 654 = .ok (.aload_n 0, 1) := by decide +kernel
theorem dL_law_655 : decode cL_law 655 = .ok (.iload 4, 2) := by decide +kernel
theorem dL_law_657 : decode cL_law 657 = .ok (.iconst 1, 1) := by decide +kernel
theorem dL_law_658 : decode cL_law 658 = .ok (.iadd, 1) := by decide +kernel
theorem dL_law_659 : decode cL_law 659 = .ok (.iaload, 1) := by decide +kernel
theorem dL_law_660 : decode cL_law 660 = .ok (.aload_n 0, 1) := by decide +kernel
theorem dL_law_661 : decode cL_law 661 = .ok (.iload 4, 2) := by decide +kernel
theorem dL_law_663 : decode cL_law 663 = .ok (.iconst 2, 1) := by decide +kernel
theorem dL_law_664 : decode cL_law 664 = .ok (.iadd, 1) := by decide +kernel
theorem dL_law_665 : decode cL_law 665 = .ok (.iaload, 1) := by decide +kernel
theorem dL_law_666 : decode cL_law 666 = .ok (.aload_n 0, 1) := by decide +kernel
theorem dL_law_667 : decode cL_law 667 = .ok (.iload 4, 2) := by decide +kernel
theorem dL_law_669 : decode cL_law 669 = .ok (.iconst 3, 1) := by decide +kernel
theorem dL_law_670 : decode cL_law 670 = .ok (.iadd, 1) := by decide +kernel
theorem dL_law_671 : decode cL_law 671 = .ok (.iaload, 1) := by decide +kernel
theorem dL_law_672 : decode cL_law 672 = .ok (.invokevirtual 139, 3) := by decide +kernel
theorem dL_law_675 : decode cL_law 675 = .ok (.istore 6, 2) := by decide +kernel
theorem dL_law_677 : decode cL_law 677 = .ok (.goto 218, 3) := by decide +kernel
theorem dL_law_680 : decode cL_law 680 = .ok (.aload_n 1, 1) := by decide +kernel
theorem dL_law_681 : decode cL_law 681 = .ok (.aload_n 0, 1) := by decide +kernel
theorem dL_law_682 : decode cL_law 682 = .ok (.iload 4, 2) := by decide +kernel
theorem dL_law_684 : decode cL_law 684 = .ok (.iconst 1, 1) := by decide +kernel
theorem dL_law_685 : decode cL_law 685 = .ok (.iadd, 1) := by decide +kernel
theorem dL_law_686 : decode cL_law 686 = .ok (.iaload, 1) := by decide +kernel
theorem dL_law_687 : decode cL_law 687 = .ok (.aload_n 0, 1) := by decide +kernel
theorem dL_law_688 : decode cL_law 688 = .ok (.iload 4, 2) := by decide +kernel
theorem dL_law_690 : decode cL_law 690 = .ok (.iconst 2, 1) := by decide +kernel
theorem dL_law_691 : decode cL_law 691 = .ok (.iadd, 1) := by decide +kernel
theorem dL_law_692 : decode cL_law 692 = .ok (.iaload, 1) := by decide +kernel
theorem dL_law_693 : decode cL_law 693 = .ok (.aload_n 3, 1) := by decide +kernel
theorem dL_law_694 : decode cL_law 694 = .ok (.invokestatic 140, 3) := by decide +kernel
theorem dL_law_697 : decode cL_law 697 = .ok (.istore 5, 2) := by decide +kernel
theorem dL_law_699 : decode cL_law 699 = .ok (.aload_n 2, 1) := by decide +kernel
theorem dL_law_700 : decode cL_law 700 = .ok (.aload_n 0, 1) := by decide +kernel
theorem dL_law_701 : decode cL_law 701 = .ok (.iload 4, 2) := by decide +kernel
theorem dL_law_703 : decode cL_law 703 = .ok (.iconst 1, 1) := by decide +kernel
theorem dL_law_704 : decode cL_law 704 = .ok (.iadd, 1) := by decide +kernel
theorem dL_law_705 : decode cL_law 705 = .ok (.iaload, 1) := by decide +kernel
theorem dL_law_706 : decode cL_law 706 = .ok (.aload_n 0, 1) := by decide +kernel
theorem dL_law_707 : decode cL_law 707 = .ok (.iload 4, 2) := by decide +kernel
theorem dL_law_709 : decode cL_law 709 = .ok (.iconst 2, 1) := by decide +kernel
theorem dL_law_710 : decode cL_law 710 = .ok (.iadd, 1) := by decide +kernel
theorem dL_law_711 : decode cL_law 711 = .ok (.iaload, 1) := by decide +kernel
theorem dL_law_712 : decode cL_law 712 = .ok (.invokevirtual 143, 3) := by decide +kernel
theorem dL_law_715 : decode cL_law 715 = .ok (.istore 6, 2) := by decide +kernel
theorem dL_law_717 : decode cL_law 717 = .ok (.goto 178, 3) := by decide +kernel
theorem dL_law_720 : decode cL_law 720 = .ok (.aload_n 1, 1) := by decide +kernel
theorem dL_law_721 : decode cL_law 721 = .ok (.aload_n 0, 1) := by decide +kernel
theorem dL_law_722 : decode cL_law 722 = .ok (.iload 4, 2) := by decide +kernel
theorem dL_law_724 : decode cL_law 724 = .ok (.iconst 1, 1) := by decide +kernel
theorem dL_law_725 : decode cL_law 725 = .ok (.iadd, 1) := by decide +kernel
theorem dL_law_726 : decode cL_law 726 = .ok (.iaload, 1) := by decide +kernel
theorem dL_law_727 : decode cL_law 727 = .ok (.aload_n 0, 1) := by decide +kernel
theorem dL_law_728 : decode cL_law 728 = .ok (.iload 4, 2) := by decide +kernel
theorem dL_law_730 : decode cL_law 730 = .ok (.iconst 2, 1) := by decide +kernel
theorem dL_law_731 : decode cL_law 731 = .ok (.iadd, 1) := by decide +kernel
theorem dL_law_732 : decode cL_law 732 = .ok (.iaload, 1) := by decide +kernel
theorem dL_law_733 : decode cL_law 733 = .ok (.aload_n 3, 1) := by decide +kernel
theorem dL_law_734 : decode cL_law 734 = .ok (.invokestatic 144, 3) := by decide +kernel
theorem dL_law_737 : decode cL_law 737 = .ok (.istore 5, 2) := by decide +kernel
theorem dL_law_739 : decode cL_law 739 = .ok (.aload_n 2, 1) := by decide +kernel
theorem dL_law_740 : decode cL_law 740 = .ok (.aload_n 0, 1) := by decide +kernel
theorem dL_law_741 : decode cL_law 741 = .ok (.iload 4, 2) := by decide +kernel
theorem dL_law_743 : decode cL_law 743 = .ok (.iconst 1, 1) := by decide +kernel
theorem dL_law_744 : decode cL_law 744 = .ok (.iadd, 1) := by decide +kernel
theorem dL_law_745 : decode cL_law 745 = .ok (.iaload, 1) := by decide +kernel
theorem dL_law_746 : decode cL_law 746 = .ok (.aload_n 0, 1) := by decide +kernel
theorem dL_law_747 : decode cL_law 747 = .ok (.iload 4, 2) := by decide +kernel
theorem dL_law_749 : decode cL_law 749 = .ok (.iconst 2, 1) := by decide +kernel
theorem dL_law_750 : decode cL_law 750 = .ok (.iadd, 1) := by decide +kernel
theorem dL_law_751 : decode cL_law 751 = .ok (.iaload, 1) := by decide +kernel
theorem dL_law_752 : decode cL_law 752 = .ok (.invokevirtual 146, 3) := by decide +kernel
theorem dL_law_755 : decode cL_law 755 = .ok (.istore 6, 2) := by decide +kernel
theorem dL_law_757 : decode cL_law 757 = .ok (.goto 138, 3) := by decide +kernel
theorem dL_law_760 : decode cL_law 760 = .ok (.aload_n 1, 1) := by decide +kernel
theorem dL_law_761 : decode cL_law 761 = .ok (.aload_n 0, 1) := by decide +kernel
theorem dL_law_762 : decode cL_law 762 = .ok (.iload 4, 2) := by decide +kernel
theorem dL_law_764 : decode cL_law 764 = .ok (.iconst 1, 1) := by decide +kernel
theorem dL_law_765 : decode cL_law 765 = .ok (.iadd, 1) := by decide +kernel
theorem dL_law_766 : decode cL_law 766 = .ok (.iaload, 1) := by decide +kernel
theorem dL_law_767 : decode cL_law 767 = .ok (.aload_n 3, 1) := by decide +kernel
theorem dL_law_768 : decode cL_law 768 = .ok (.invokestatic 147, 3) := by decide +kernel
theorem dL_law_771 : decode cL_law 771 = .ok (.istore 5, 2) := by decide +kernel
theorem dL_law_773 : decode cL_law 773 = .ok (.aload_n 2, 1) := by decide +kernel
theorem dL_law_774 : decode cL_law 774 = .ok (.aload_n 0, 1) := by decide +kernel
theorem dL_law_775 : decode cL_law 775 = .ok (.iload 4, 2) := by decide +kernel
theorem dL_law_777 : decode cL_law 777 = .ok (.iconst 1, 1) := by decide +kernel
theorem dL_law_778 : decode cL_law 778 = .ok (.iadd, 1) := by decide +kernel
theorem dL_law_779 : decode cL_law 779 = .ok (.iaload, 1) := by decide +kernel
theorem dL_law_780 : decode cL_law 780 = .ok (.invokevirtual 149, 3) := by decide +kernel
theorem dL_law_783 : decode cL_law 783 = .ok (.astore 6, 2) := by decide +kernel
theorem dL_law_785 : decode cL_law 785 = .ok (.goto 110, 3) := by decide +kernel
theorem dL_law_788 : decode cL_law 788 = .ok (.aload_n 1, 1) := by decide +kernel
theorem dL_law_789 : decode cL_law 789 = .ok (.aload_n 0, 1) := by decide +kernel
theorem dL_law_790 : decode cL_law 790 = .ok (.iload 4, 2) := by decide +kernel
theorem dL_law_792 : decode cL_law 792 = .ok (.iconst 1, 1) := by decide +kernel
theorem dL_law_793 : decode cL_law 793 = .ok (.iadd, 1) := by decide +kernel
theorem dL_law_794 : decode cL_law 794 = .ok (.iaload, 1) := by decide +kernel
theorem dL_law_795 : decode cL_law 795 = .ok (.aload_n 0, 1) := by decide +kernel
theorem dL_law_796 : decode cL_law 796 = .ok (.iload 4, 2) := by decide +kernel
theorem dL_law_798 : decode cL_law 798 = .ok (.iconst 2, 1) := by decide +kernel
theorem dL_law_799 : decode cL_law 799 = .ok (.iadd, 1) := by decide +kernel
theorem dL_law_800 : decode cL_law 800 = .ok (.iaload, 1) := by decide +kernel
theorem dL_law_801 : decode cL_law 801 = .ok (.aload_n 3, 1) := by decide +kernel
theorem dL_law_802 : decode cL_law 802 = .ok (.invokestatic 150, 3) := by decide +kernel
theorem dL_law_805 : decode cL_law 805 = .ok (.istore 5, 2) := by decide +kernel
theorem dL_law_807 : decode cL_law 807 = .ok (.aload_n 2, 1) := by decide +kernel
theorem dL_law_808 : decode cL_law 808 = .ok (.aload_n 0, 1) := by decide +kernel
theorem dL_law_809 : decode cL_law 809 = .ok (.iload 4, 2) := by decide +kernel
theorem dL_law_811 : decode cL_law 811 = .ok (.iconst 1, 1) := by decide +kernel
theorem dL_law_812 : decode cL_law 812 = .ok (.iadd, 1) := by decide +kernel
theorem dL_law_813 : decode cL_law 813 = .ok (.iaload, 1) := by decide +kernel
theorem dL_law_814 : decode cL_law 814 = .ok (.aload_n 0, 1) := by decide +kernel
theorem dL_law_815 : decode cL_law 815 = .ok (.iload 4, 2) := by decide +kernel
theorem dL_law_817 : decode cL_law 817 = .ok (.iconst 2, 1) := by decide +kernel
theorem dL_law_818 : decode cL_law 818 = .ok (.iadd, 1) := by decide +kernel
theorem dL_law_819 : decode cL_law 819 = .ok (.iaload, 1) := by decide +kernel
theorem dL_law_820 : decode cL_law 820 = .ok (.invokevirtual 152, 3) := by decide +kernel
theorem dL_law_823 : decode cL_law 823 = .ok (.istore 6, 2) := by decide +kernel
theorem dL_law_825 : decode cL_law 825 = .ok (.goto 70, 3) := by decide +kernel
theorem dL_law_828 : decode cL_law 828 = .ok (.aload_n 1, 1) := by decide +kernel
theorem dL_law_829 : decode cL_law 829 = .ok (.aload_n 0, 1) := by decide +kernel
theorem dL_law_830 : decode cL_law 830 = .ok (.iload 4, 2) := by decide +kernel
theorem dL_law_832 : decode cL_law 832 = .ok (.iconst 1, 1) := by decide +kernel
theorem dL_law_833 : decode cL_law 833 = .ok (.iadd, 1) := by decide +kernel
theorem dL_law_834 : decode cL_law 834 = .ok (.iaload, 1) := by decide +kernel
theorem dL_law_835 : decode cL_law 835 = .ok (.aload_n 3, 1) := by decide +kernel
theorem dL_law_836 : decode cL_law 836 = .ok (.invokestatic 153, 3) := by decide +kernel
theorem dL_law_839 : decode cL_law 839 = .ok (.istore 5, 2) := by decide +kernel
theorem dL_law_841 : decode cL_law 841 = .ok (.aload_n 2, 1) := by decide +kernel
theorem dL_law_842 : decode cL_law 842 = .ok (.aload_n 0, 1) := by decide +kernel
theorem dL_law_843 : decode cL_law 843 = .ok (.iload 4, 2) := by decide +kernel
theorem dL_law_845 : decode cL_law 845 = .ok (.iconst 1, 1) := by decide +kernel
theorem dL_law_846 : decode cL_law 846 = .ok (.iadd, 1) := by decide +kernel
theorem dL_law_847 : decode cL_law 847 = .ok (.iaload, 1) := by decide +kernel
theorem dL_law_848 : decode cL_law 848 = .ok (.invokevirtual 155, 3) := by decide +kernel
theorem dL_law_851 : decode cL_law 851 = .ok (.istore 6, 2) := by decide +kernel
theorem dL_law_853 : decode cL_law 853 = .ok (.goto 42, 3) := by decide +kernel
theorem dL_law_856 : decode cL_law 856 = .ok (.aload_n 1, 1) := by decide +kernel
theorem dL_law_857 : decode cL_law 857 = .ok (.invokevirtual 156, 3) := by decide +kernel
theorem dL_law_860 : decode cL_law 860 = .ok (.pop, 1) := by decide +kernel
theorem dL_law_861 : decode cL_law 861 = .ok (.aload_n 2, 1) := by decide +kernel
theorem dL_law_862 : decode cL_law 862 = .ok (.invokevirtual 159, 3) := by decide +kernel
theorem dL_law_865 : decode cL_law 865 = .ok (.pop, 1) := by decide +kernel
theorem dL_law_866 : decode cL_law 866 = .ok (.goto 29, 3) := by decide +kernel
theorem dL_law_869 : decode cL_law 869 = .ok (.aload_n 1, 1) := by decide +kernel
theorem dL_law_870 : decode cL_law 870 = .ok (.invokevirtual 160, 3) := by decide +kernel
theorem dL_law_873 : decode cL_law 873 = .ok (.pop, 1) := by decide +kernel
theorem dL_law_874 : decode cL_law 874 = .ok (.aload_n 2, 1) := by decide +kernel
theorem dL_law_875 : decode cL_law 875 = .ok (.invokevirtual 164, 3) := by decide +kernel
theorem dL_law_878 : decode cL_law 878 = .ok (.pop, 1) := by decide +kernel
theorem dL_law_879 : decode cL_law 879 = .ok (.goto 16, 3) := by decide +kernel
theorem dL_law_882 : decode cL_law 882 = .ok (.aload_n 1, 1) := by decide +kernel
theorem dL_law_883 : decode cL_law 883 = .ok (.invokevirtual 165, 3) := by decide +kernel
theorem dL_law_886 : decode cL_law 886 = .ok (.pop2, 1) := by decide +kernel
theorem dL_law_887 : decode cL_law 887 = .ok (.aload_n 2, 1) := by decide +kernel
theorem dL_law_888 : decode cL_law 888 = .ok (.invokevirtual 169, 3) := by decide +kernel
theorem dL_law_891 : decode cL_law 891 = .ok (.pop2, 1) := by decide +kernel
theorem dL_law_892 : decode cL_law 892 = .ok (.goto 3, 3) := by decide +kernel
theorem dL_law_895 : decode cL_law 895 = .ok (.iinc 4 4, 3) := by decide +kernel
theorem dL_law_898 : decode cL_law 898 = .ok (.goto (-871), 3) := by decide +kernel
theorem dL_law_901 : decode cL_law 901 = .ok (.iconst 1, 1) := by decide +kernel
theorem dL_law_902 : decode cL_law 902 = .ok (.ireturn, 1) := by decide +kernel
def fL_law (nL : Nat) (xs : Nat → Int32) : Option (Int32) := ((fX6_init).bind fun x_2 => ((fX9_init).bind fun _ => ((fX7_init).bind fun x_54 => ((wl (S := Int32 × Nat × (Nat → Int32) × Int64 × (Nat → Nat) × (Nat → Nat → Nat → Int32) × (Nat → Int32) × (Nat → Nat → Int32) × Int64 × Nat × Nat) (B := (Int32 × Nat × (Nat → Int32) × Int64 × (Nat → Nat) × (Nat → Nat → Nat → Int32) × (Nat → Int32) × (Nat → Nat → Int32) × Int64 × Nat × Nat) ⊕ Int32) (fun s_58 => (if s_58.2.2.2.2.2.2.2.2.2.1 ≤ 1006402 ∧ s_58.2.2.2.2.2.2.2.2.2.2 ≤ 6076897 then (if ((nI nL) - 4) < s_58.1 then some (.inr (.inl (s_58.1, s_58.2.1, s_58.2.2.1, s_58.2.2.2.1, s_58.2.2.2.2.1, s_58.2.2.2.2.2.1, s_58.2.2.2.2.2.2.1, s_58.2.2.2.2.2.2.2.1, s_58.2.2.2.2.2.2.2.2.1, s_58.2.2.2.2.2.2.2.2.2.1, s_58.2.2.2.2.2.2.2.2.2.2))) else (if ¬ (s_58.1 < 0 ∨ nL ≤ s_58.1.toNatClampNeg) then (if ((xs s_58.1.toNatClampNeg) &&& 31) = 0 then (if ¬ ((s_58.1 + 1) < 0 ∨ nL ≤ (s_58.1 + 1).toNatClampNeg) then (if ¬ ((s_58.1 + 2) < 0 ∨ nL ≤ (s_58.1 + 2).toNatClampNeg) then (if ¬ ((s_58.1 + 3) < 0 ∨ nL ≤ (s_58.1 + 3).toNatClampNeg) then ((gL_shape s_58.2.2.2.2.2.2.1 s_58.2.2.2.2.2.2.2.1 s_58.2.2.2.2.2.2.2.2.1 (xs (s_58.1 + 1).toNatClampNeg) (xs (s_58.1 + 2).toNatClampNeg) (xs (s_58.1 + 3).toNatClampNeg)).bind fun x_68 => (if s_58.2.2.2.2.2.2.2.2.2.1 + 1 ≤ 1006402 ∧ s_58.2.2.2.2.2.2.2.2.2.2 + 6 ≤ 6076897 then (if ¬ ((s_58.1 + 1) < 0 ∨ nL ≤ (s_58.1 + 1).toNatClampNeg) then (if ¬ ((s_58.1 + 2) < 0 ∨ nL ≤ (s_58.1 + 2).toNatClampNeg) then (if ¬ ((s_58.1 + 3) < 0 ∨ nL ≤ (s_58.1 + 3).toNatClampNeg) then ((gX9w_shape s_58.2.1 s_58.2.2.1 s_58.2.2.2.1 s_58.2.2.2.2.1 s_58.2.2.2.2.2.1 (xs (s_58.1 + 1).toNatClampNeg) (xs (s_58.1 + 2).toNatClampNeg) (xs (s_58.1 + 3).toNatClampNeg)).bind fun x_77 => (if s_58.2.2.2.2.2.2.2.2.2.1 + 1 + 20 ≤ 1006402 ∧ s_58.2.2.2.2.2.2.2.2.2.2 + 6 + 180 ≤ 6076897 then some (.inl (s_58.1 + 4, x_77.2.1, x_77.2.2.1, x_77.2.2.2.1, x_77.2.2.2.2.1, x_77.2.2.2.2.2, x_68.2.1, x_68.2.2.1, x_68.2.2.2, s_58.2.2.2.2.2.2.2.2.2.1 + 1 + 20, s_58.2.2.2.2.2.2.2.2.2.2 + 6 + 180)) else none)) else none) else none) else none) else none)) else none) else none) else none) else (if ((xs s_58.1.toNatClampNeg) &&& 31) = 1 then (if ¬ ((s_58.1 + 1) < 0 ∨ nL ≤ (s_58.1 + 1).toNatClampNeg) then (if ¬ ((s_58.1 + 2) < 0 ∨ nL ≤ (s_58.1 + 2).toNatClampNeg) then (if ¬ ((s_58.1 + 3) < 0 ∨ nL ≤ (s_58.1 + 3).toNatClampNeg) then ((gL_left s_58.2.2.2.2.2.2.1 s_58.2.2.2.2.2.2.2.1 s_58.2.2.2.2.2.2.2.2.1 (xs (s_58.1 + 1).toNatClampNeg) (xs (s_58.1 + 2).toNatClampNeg) (xs (s_58.1 + 3).toNatClampNeg)).bind fun x_88 => (if s_58.2.2.2.2.2.2.2.2.2.1 + 1 ≤ 1006402 ∧ s_58.2.2.2.2.2.2.2.2.2.2 + 6 ≤ 6076897 then (if ¬ ((s_58.1 + 1) < 0 ∨ nL ≤ (s_58.1 + 1).toNatClampNeg) then (if ¬ ((s_58.1 + 2) < 0 ∨ nL ≤ (s_58.1 + 2).toNatClampNeg) then (if ¬ ((s_58.1 + 3) < 0 ∨ nL ≤ (s_58.1 + 3).toNatClampNeg) then ((gX9w_left s_58.2.1 s_58.2.2.1 s_58.2.2.2.1 s_58.2.2.2.2.1 s_58.2.2.2.2.2.1 (xs (s_58.1 + 1).toNatClampNeg) (xs (s_58.1 + 2).toNatClampNeg) (xs (s_58.1 + 3).toNatClampNeg)).bind fun x_97 => some (.inl (s_58.1 + 4, x_97.2.1, x_97.2.2.1, x_97.2.2.2.1, x_97.2.2.2.2.1, x_97.2.2.2.2.2, x_88.2.1, x_88.2.2.1, x_88.2.2.2, s_58.2.2.2.2.2.2.2.2.2.1 + 1, s_58.2.2.2.2.2.2.2.2.2.2 + 6))) else none) else none) else none) else none)) else none) else none) else none) else (if ((xs s_58.1.toNatClampNeg) &&& 31) = 2 then (if ¬ ((s_58.1 + 1) < 0 ∨ nL ≤ (s_58.1 + 1).toNatClampNeg) then (if ¬ ((s_58.1 + 2) < 0 ∨ nL ≤ (s_58.1 + 2).toNatClampNeg) then (if ¬ ((s_58.1 + 3) < 0 ∨ nL ≤ (s_58.1 + 3).toNatClampNeg) then ((gL_top s_58.2.2.2.2.2.2.1 s_58.2.2.2.2.2.2.2.1 s_58.2.2.2.2.2.2.2.2.1 (xs (s_58.1 + 1).toNatClampNeg) (xs (s_58.1 + 2).toNatClampNeg) (xs (s_58.1 + 3).toNatClampNeg)).bind fun x_107 => (if s_58.2.2.2.2.2.2.2.2.2.1 + 1 ≤ 1006402 ∧ s_58.2.2.2.2.2.2.2.2.2.2 + 6 ≤ 6076897 then (if ¬ ((s_58.1 + 1) < 0 ∨ nL ≤ (s_58.1 + 1).toNatClampNeg) then (if ¬ ((s_58.1 + 2) < 0 ∨ nL ≤ (s_58.1 + 2).toNatClampNeg) then (if ¬ ((s_58.1 + 3) < 0 ∨ nL ≤ (s_58.1 + 3).toNatClampNeg) then ((gX9w_top s_58.2.1 s_58.2.2.1 s_58.2.2.2.1 s_58.2.2.2.2.1 s_58.2.2.2.2.2.1 (xs (s_58.1 + 1).toNatClampNeg) (xs (s_58.1 + 2).toNatClampNeg) (xs (s_58.1 + 3).toNatClampNeg)).bind fun x_116 => some (.inl (s_58.1 + 4, x_116.2.1, x_116.2.2.1, x_116.2.2.2.1, x_116.2.2.2.2.1, x_116.2.2.2.2.2, x_107.2.1, x_107.2.2.1, x_107.2.2.2, s_58.2.2.2.2.2.2.2.2.2.1 + 1, s_58.2.2.2.2.2.2.2.2.2.2 + 6))) else none) else none) else none) else none)) else none) else none) else none) else (if ((xs s_58.1.toNatClampNeg) &&& 31) = 3 then (if ¬ ((s_58.1 + 1) < 0 ∨ nL ≤ (s_58.1 + 1).toNatClampNeg) then ((gL_kind s_58.2.2.2.2.2.2.1 s_58.2.2.2.2.2.2.2.1 s_58.2.2.2.2.2.2.2.2.1 (xs (s_58.1 + 1).toNatClampNeg)).bind fun x_124 => (if s_58.2.2.2.2.2.2.2.2.2.1 + 1 ≤ 1006402 ∧ s_58.2.2.2.2.2.2.2.2.2.2 + 6 ≤ 6076897 then (if ¬ ((s_58.1 + 1) < 0 ∨ nL ≤ (s_58.1 + 1).toNatClampNeg) then ((gX9w_kind s_58.2.1 s_58.2.2.1 s_58.2.2.2.1 s_58.2.2.2.2.1 s_58.2.2.2.2.2.1 (xs (s_58.1 + 1).toNatClampNeg)).bind fun x_131 => some (.inl (s_58.1 + 4, x_131.2.1, x_131.2.2.1, x_131.2.2.2.1, x_131.2.2.2.2.1, x_131.2.2.2.2.2, x_124.2.1, x_124.2.2.1, x_124.2.2.2, s_58.2.2.2.2.2.2.2.2.2.1 + 1, s_58.2.2.2.2.2.2.2.2.2.2 + 6))) else none) else none)) else none) else (if ((xs s_58.1.toNatClampNeg) &&& 31) = 4 then (if ¬ ((s_58.1 + 1) < 0 ∨ nL ≤ (s_58.1 + 1).toNatClampNeg) then ((((if (xs (s_58.1 + 1).toNatClampNeg) = 0 then some 0 else some 1) : Option (Int32))).bind fun r_140 => ((gL_checked s_58.2.2.2.2.2.2.1 s_58.2.2.2.2.2.2.2.1 s_58.2.2.2.2.2.2.2.2.1 r_140).bind fun x_141 => (if s_58.2.2.2.2.2.2.2.2.2.1 + 1 ≤ 1006402 ∧ s_58.2.2.2.2.2.2.2.2.2.2 + 6 ≤ 6076897 then (if ¬ ((s_58.1 + 1) < 0 ∨ nL ≤ (s_58.1 + 1).toNatClampNeg) then ((((if (xs (s_58.1 + 1).toNatClampNeg) = 0 then some 0 else some 1) : Option (Int32))).bind fun r_149 => ((gX9w_checked s_58.2.1 s_58.2.2.1 s_58.2.2.2.1 s_58.2.2.2.2.1 s_58.2.2.2.2.2.1 r_149).bind fun x_150 => ((gX9w_thrown x_150.2.1 x_150.2.2.1 x_150.2.2.2.1 x_150.2.2.2.2.1 x_150.2.2.2.2.2).bind fun x_156 => (if x_156.1 = x_141.1 then (if x_141.1 = 0 then ((((if x_150.1 = 0 then some 0 else some 1) : Option (Int64))).bind fun r_165 => (if (lg_cmp x_141.2.2.2 r_165) = 0 then some (.inl (s_58.1 + 4, x_156.2.1, x_156.2.2.1, x_156.2.2.2.1, x_156.2.2.2.2.1, x_156.2.2.2.2.2, x_141.2.1, x_141.2.2.1, x_141.2.2.2, s_58.2.2.2.2.2.2.2.2.2.1 + 1, s_58.2.2.2.2.2.2.2.2.2.2 + 6)) else some (.inr (.inr 0)))) else some (.inl (s_58.1 + 4, x_156.2.1, x_156.2.2.1, x_156.2.2.2.1, x_156.2.2.2.2.1, x_156.2.2.2.2.2, x_141.2.1, x_141.2.2.1, x_141.2.2.2, s_58.2.2.2.2.2.2.2.2.2.1 + 1, s_58.2.2.2.2.2.2.2.2.2.2 + 6))) else some (.inr (.inr 0)))))) else none) else none))) else none) else (if ((xs s_58.1.toNatClampNeg) &&& 31) = 5 then (if ¬ ((s_58.1 + 1) < 0 ∨ nL ≤ (s_58.1 + 1).toNatClampNeg) then (if ¬ ((s_58.1 + 2) < 0 ∨ nL ≤ (s_58.1 + 2).toNatClampNeg) then (if ¬ ((s_58.1 + 3) < 0 ∨ nL ≤ (s_58.1 + 3).toNatClampNeg) then ((((if (xs (s_58.1 + 3).toNatClampNeg) = 0 then some 0 else some 1) : Option (Int32))).bind fun r_183 => ((gL_broken s_58.2.2.2.2.2.2.1 s_58.2.2.2.2.2.2.2.1 s_58.2.2.2.2.2.2.2.2.1 (xs (s_58.1 + 1).toNatClampNeg) (xs (s_58.1 + 2).toNatClampNeg) r_183).bind fun x_184 => (if s_58.2.2.2.2.2.2.2.2.2.1 + 1 ≤ 1006402 ∧ s_58.2.2.2.2.2.2.2.2.2.2 + 6 ≤ 6076897 then (if ¬ ((s_58.1 + 1) < 0 ∨ nL ≤ (s_58.1 + 1).toNatClampNeg) then (if ¬ ((s_58.1 + 2) < 0 ∨ nL ≤ (s_58.1 + 2).toNatClampNeg) then (if ¬ ((s_58.1 + 3) < 0 ∨ nL ≤ (s_58.1 + 3).toNatClampNeg) then ((((if (xs (s_58.1 + 3).toNatClampNeg) = 0 then some 0 else some 1) : Option (Int32))).bind fun r_194 => ((gX9w_broken s_58.2.1 s_58.2.2.1 s_58.2.2.2.1 s_58.2.2.2.2.1 s_58.2.2.2.2.2.1 (xs (s_58.1 + 1).toNatClampNeg) (xs (s_58.1 + 2).toNatClampNeg) r_194).bind fun x_195 => some (.inl (s_58.1 + 4, x_195.2.1, x_195.2.2.1, x_195.2.2.2.1, x_195.2.2.2.2.1, x_195.2.2.2.2.2, x_184.2.1, x_184.2.2.1, x_184.2.2.2, s_58.2.2.2.2.2.2.2.2.2.1 + 1, s_58.2.2.2.2.2.2.2.2.2.2 + 6)))) else none) else none) else none) else none))) else none) else none) else none) else (if ((xs s_58.1.toNatClampNeg) &&& 31) = 6 then ((gL_test s_58.2.2.2.2.2.2.1 s_58.2.2.2.2.2.2.2.1 s_58.2.2.2.2.2.2.2.2.1).bind fun x_208 => (if s_58.2.2.2.2.2.2.2.2.2.1 + 1 ≤ 1006402 ∧ s_58.2.2.2.2.2.2.2.2.2.2 + 6 ≤ 6076897 then ((gX9w_test s_58.2.1 s_58.2.2.1 s_58.2.2.2.1 s_58.2.2.2.2.1 s_58.2.2.2.2.2.1).bind fun x_214 => (if s_58.2.2.2.2.2.2.2.2.2.1 + 1 + 10 ≤ 1006402 ∧ s_58.2.2.2.2.2.2.2.2.2.2 + 6 + 50 ≤ 6076897 then some (.inl (s_58.1 + 4, x_214.2.1, x_214.2.2.1, x_214.2.2.2.1, x_214.2.2.2.2.1, x_214.2.2.2.2.2, x_208.2.1, x_208.2.2.1, x_208.2.2.2, s_58.2.2.2.2.2.2.2.2.2.1 + 1 + 10, s_58.2.2.2.2.2.2.2.2.2.2 + 6 + 50)) else none)) else none)) else (if ((xs s_58.1.toNatClampNeg) &&& 31) = 7 then ((gL_start s_58.2.2.2.2.2.2.1 s_58.2.2.2.2.2.2.2.1 s_58.2.2.2.2.2.2.2.2.1).bind fun x_222 => (if s_58.2.2.2.2.2.2.2.2.2.1 + 1 ≤ 1006402 ∧ s_58.2.2.2.2.2.2.2.2.2.2 + 6 ≤ 6076897 then ((gX9w_begin s_58.2.1 s_58.2.2.1 s_58.2.2.2.1 s_58.2.2.2.2.1 s_58.2.2.2.2.2.1).bind fun x_228 => (if s_58.2.2.2.2.2.2.2.2.2.1 + 1 + 100 ≤ 1006402 ∧ s_58.2.2.2.2.2.2.2.2.2.2 + 6 + 500 ≤ 6076897 then some (.inl (s_58.1 + 4, x_228.2.1, x_228.2.2.1, x_228.2.2.2.1, x_228.2.2.2.2.1, x_228.2.2.2.2.2, x_222.2.1, x_222.2.2.1, x_222.2.2.2, s_58.2.2.2.2.2.2.2.2.2.1 + 1 + 100, s_58.2.2.2.2.2.2.2.2.2.2 + 6 + 500)) else none)) else none)) else (if ((xs s_58.1.toNatClampNeg) &&& 31) = 8 then (if ¬ ((s_58.1 + 1) < 0 ∨ nL ≤ (s_58.1 + 1).toNatClampNeg) then ((gL_beat s_58.2.2.2.2.2.2.1 s_58.2.2.2.2.2.2.2.1 s_58.2.2.2.2.2.2.2.2.1 (xs (s_58.1 + 1).toNatClampNeg)).bind fun x_237 => (if s_58.2.2.2.2.2.2.2.2.2.1 + 1 ≤ 1006402 ∧ s_58.2.2.2.2.2.2.2.2.2.2 + 6 ≤ 6076897 then (if ¬ ((s_58.1 + 1) < 0 ∨ nL ≤ (s_58.1 + 1).toNatClampNeg) then ((gX9w_beat s_58.2.1 s_58.2.2.1 s_58.2.2.2.1 s_58.2.2.2.2.1 s_58.2.2.2.2.2.1 (xs (s_58.1 + 1).toNatClampNeg)).bind fun x_244 => (if s_58.2.2.2.2.2.2.2.2.2.1 + 1 + 200 ≤ 1006402 ∧ s_58.2.2.2.2.2.2.2.2.2.2 + 6 + 1800 ≤ 6076897 then some (.inl (s_58.1 + 4, x_244.2.1, x_244.2.2.1, x_244.2.2.2.1, x_244.2.2.2.2.1, x_244.2.2.2.2.2, x_237.2.1, x_237.2.2.1, x_237.2.2.2, s_58.2.2.2.2.2.2.2.2.2.1 + 1 + 200, s_58.2.2.2.2.2.2.2.2.2.2 + 6 + 1800)) else none)) else none) else none)) else none) else (if ((xs s_58.1.toNatClampNeg) &&& 31) = 9 then (if ¬ ((s_58.1 + 1) < 0 ∨ nL ≤ (s_58.1 + 1).toNatClampNeg) then (if ¬ ((s_58.1 + 2) < 0 ∨ nL ≤ (s_58.1 + 2).toNatClampNeg) then (if ¬ ((s_58.1 + 3) < 0 ∨ nL ≤ (s_58.1 + 3).toNatClampNeg) then ((gL_bend s_58.2.2.2.2.2.2.1 s_58.2.2.2.2.2.2.2.1 s_58.2.2.2.2.2.2.2.2.1 (xs (s_58.1 + 1).toNatClampNeg) (xs (s_58.1 + 2).toNatClampNeg) (xs (s_58.1 + 3).toNatClampNeg)).bind fun x_255 => (if s_58.2.2.2.2.2.2.2.2.2.1 + 1 ≤ 1006402 ∧ s_58.2.2.2.2.2.2.2.2.2.2 + 6 ≤ 6076897 then (if ¬ ((s_58.1 + 1) < 0 ∨ nL ≤ (s_58.1 + 1).toNatClampNeg) then (if ¬ ((s_58.1 + 2) < 0 ∨ nL ≤ (s_58.1 + 2).toNatClampNeg) then (if ¬ ((s_58.1 + 3) < 0 ∨ nL ≤ (s_58.1 + 3).toNatClampNeg) then ((gX9w_bend s_58.2.1 s_58.2.2.1 s_58.2.2.2.1 s_58.2.2.2.2.1 s_58.2.2.2.2.2.1 (xs (s_58.1 + 1).toNatClampNeg) (xs (s_58.1 + 2).toNatClampNeg) (xs (s_58.1 + 3).toNatClampNeg)).bind fun x_264 => some (.inl (s_58.1 + 4, x_264.2.1, x_264.2.2.1, x_264.2.2.2.1, x_264.2.2.2.2.1, x_264.2.2.2.2.2, x_255.2.1, x_255.2.2.1, x_255.2.2.2, s_58.2.2.2.2.2.2.2.2.2.1 + 1, s_58.2.2.2.2.2.2.2.2.2.2 + 6))) else none) else none) else none) else none)) else none) else none) else none) else (if ((xs s_58.1.toNatClampNeg) &&& 31) = 10 then ((gL_check s_58.2.2.2.2.2.2.1 s_58.2.2.2.2.2.2.2.1 s_58.2.2.2.2.2.2.2.2.1).bind fun x_271 => (if s_58.2.2.2.2.2.2.2.2.2.1 + 1 ≤ 1006402 ∧ s_58.2.2.2.2.2.2.2.2.2.2 + 6 ≤ 6076897 then ((gX9w_check s_58.2.1 s_58.2.2.1 s_58.2.2.2.1 s_58.2.2.2.2.1 s_58.2.2.2.2.2.1).bind fun x_277 => some (.inl (s_58.1 + 4, x_277.2.1, x_277.2.2.1, x_277.2.2.2.1, x_277.2.2.2.2.1, x_277.2.2.2.2.2, x_271.2.1, x_271.2.2.1, x_271.2.2.2, s_58.2.2.2.2.2.2.2.2.2.1 + 1, s_58.2.2.2.2.2.2.2.2.2.2 + 6))) else none)) else (if ((xs s_58.1.toNatClampNeg) &&& 31) = 11 then (if ¬ ((s_58.1 + 1) < 0 ∨ nL ≤ (s_58.1 + 1).toNatClampNeg) then ((gL_mesh s_58.2.2.2.2.2.2.1 s_58.2.2.2.2.2.2.2.1 s_58.2.2.2.2.2.2.2.2.1 (xs (s_58.1 + 1).toNatClampNeg)).bind fun x_285 => (if s_58.2.2.2.2.2.2.2.2.2.1 + 1 ≤ 1006402 ∧ s_58.2.2.2.2.2.2.2.2.2.2 + 6 ≤ 6076897 then (if ¬ ((s_58.1 + 1) < 0 ∨ nL ≤ (s_58.1 + 1).toNatClampNeg) then ((gX9w_mesh s_58.2.1 s_58.2.2.1 s_58.2.2.2.1 s_58.2.2.2.2.1 s_58.2.2.2.2.2.1 (xs (s_58.1 + 1).toNatClampNeg)).bind fun x_292 => some (.inl (s_58.1 + 4, x_292.2.1, x_292.2.2.1, x_292.2.2.2.1, x_292.2.2.2.2.1, x_292.2.2.2.2.2, x_285.2.1, x_285.2.2.1, x_285.2.2.2, s_58.2.2.2.2.2.2.2.2.2.1 + 1, s_58.2.2.2.2.2.2.2.2.2.2 + 6))) else none) else none)) else none) else (if ((xs s_58.1.toNatClampNeg) &&& 31) = 12 then (if ¬ ((s_58.1 + 1) < 0 ∨ nL ≤ (s_58.1 + 1).toNatClampNeg) then (if ¬ ((s_58.1 + 2) < 0 ∨ nL ≤ (s_58.1 + 2).toNatClampNeg) then (if ¬ ((s_58.1 + 3) < 0 ∨ nL ≤ (s_58.1 + 3).toNatClampNeg) then ((gL_ofCell s_58.2.2.2.2.2.2.1 s_58.2.2.2.2.2.2.2.1 s_58.2.2.2.2.2.2.2.2.1 (xs (s_58.1 + 1).toNatClampNeg) (xs (s_58.1 + 2).toNatClampNeg) (xs (s_58.1 + 3).toNatClampNeg)).bind fun x_302 => (if s_58.2.2.2.2.2.2.2.2.2.1 + 1 ≤ 1006402 ∧ s_58.2.2.2.2.2.2.2.2.2.2 + 6 ≤ 6076897 then (if ¬ ((s_58.1 + 1) < 0 ∨ nL ≤ (s_58.1 + 1).toNatClampNeg) then (if ¬ ((s_58.1 + 2) < 0 ∨ nL ≤ (s_58.1 + 2).toNatClampNeg) then (if ¬ ((s_58.1 + 3) < 0 ∨ nL ≤ (s_58.1 + 3).toNatClampNeg) then ((gX9w_ofCell s_58.2.1 s_58.2.2.1 s_58.2.2.2.1 s_58.2.2.2.2.1 s_58.2.2.2.2.2.1 (xs (s_58.1 + 1).toNatClampNeg) (xs (s_58.1 + 2).toNatClampNeg) (xs (s_58.1 + 3).toNatClampNeg)).bind fun x_311 => some (.inl (s_58.1 + 4, x_311.2.1, x_311.2.2.1, x_311.2.2.2.1, x_311.2.2.2.2.1, x_311.2.2.2.2.2, x_302.2.1, x_302.2.2.1, x_302.2.2.2, s_58.2.2.2.2.2.2.2.2.2.1 + 1, s_58.2.2.2.2.2.2.2.2.2.2 + 6))) else none) else none) else none) else none)) else none) else none) else none) else (if ((xs s_58.1.toNatClampNeg) &&& 31) = 13 then (if ¬ ((s_58.1 + 1) < 0 ∨ nL ≤ (s_58.1 + 1).toNatClampNeg) then (if ¬ ((s_58.1 + 2) < 0 ∨ nL ≤ (s_58.1 + 2).toNatClampNeg) then ((gL_result s_58.2.2.2.2.2.2.1 s_58.2.2.2.2.2.2.2.1 s_58.2.2.2.2.2.2.2.2.1 (xs (s_58.1 + 1).toNatClampNeg) (xs (s_58.1 + 2).toNatClampNeg)).bind fun x_320 => (if s_58.2.2.2.2.2.2.2.2.2.1 + 1 ≤ 1006402 ∧ s_58.2.2.2.2.2.2.2.2.2.2 + 6 ≤ 6076897 then (if ¬ ((s_58.1 + 1) < 0 ∨ nL ≤ (s_58.1 + 1).toNatClampNeg) then (if ¬ ((s_58.1 + 2) < 0 ∨ nL ≤ (s_58.1 + 2).toNatClampNeg) then ((gX9w_result s_58.2.1 s_58.2.2.1 s_58.2.2.2.1 s_58.2.2.2.2.1 s_58.2.2.2.2.2.1 (xs (s_58.1 + 1).toNatClampNeg) (xs (s_58.1 + 2).toNatClampNeg)).bind fun x_328 => some (.inl (s_58.1 + 4, x_328.2.1, x_328.2.2.1, x_328.2.2.2.1, x_328.2.2.2.2.1, x_328.2.2.2.2.2, x_320.2.1, x_320.2.2.1, x_320.2.2.2, s_58.2.2.2.2.2.2.2.2.2.1 + 1, s_58.2.2.2.2.2.2.2.2.2.2 + 6))) else none) else none) else none)) else none) else none) else (if ((xs s_58.1.toNatClampNeg) &&& 31) = 14 then (if ¬ ((s_58.1 + 1) < 0 ∨ nL ≤ (s_58.1 + 1).toNatClampNeg) then (if ¬ ((s_58.1 + 2) < 0 ∨ nL ≤ (s_58.1 + 2).toNatClampNeg) then ((gL_plain s_58.2.2.2.2.2.2.1 s_58.2.2.2.2.2.2.2.1 s_58.2.2.2.2.2.2.2.2.1 (xs (s_58.1 + 1).toNatClampNeg) (xs (s_58.1 + 2).toNatClampNeg)).bind fun x_337 => (if s_58.2.2.2.2.2.2.2.2.2.1 + 1 ≤ 1006402 ∧ s_58.2.2.2.2.2.2.2.2.2.2 + 6 ≤ 6076897 then (if ¬ ((s_58.1 + 1) < 0 ∨ nL ≤ (s_58.1 + 1).toNatClampNeg) then (if ¬ ((s_58.1 + 2) < 0 ∨ nL ≤ (s_58.1 + 2).toNatClampNeg) then ((gX9w_plain s_58.2.1 s_58.2.2.1 s_58.2.2.2.1 s_58.2.2.2.2.1 s_58.2.2.2.2.2.1 (xs (s_58.1 + 1).toNatClampNeg) (xs (s_58.1 + 2).toNatClampNeg)).bind fun x_345 => some (.inl (s_58.1 + 4, x_345.2.1, x_345.2.2.1, x_345.2.2.2.1, x_345.2.2.2.2.1, x_345.2.2.2.2.2, x_337.2.1, x_337.2.2.1, x_337.2.2.2, s_58.2.2.2.2.2.2.2.2.2.1 + 1, s_58.2.2.2.2.2.2.2.2.2.2 + 6))) else none) else none) else none)) else none) else none) else (if ((xs s_58.1.toNatClampNeg) &&& 31) = 15 then (if ¬ ((s_58.1 + 1) < 0 ∨ nL ≤ (s_58.1 + 1).toNatClampNeg) then ((gL_row s_58.2.2.2.2.2.2.1 s_58.2.2.2.2.2.2.2.1 s_58.2.2.2.2.2.2.2.2.1 (xs (s_58.1 + 1).toNatClampNeg)).bind fun x_353 => (if s_58.2.2.2.2.2.2.2.2.2.1 + 4 ≤ 1006402 ∧ s_58.2.2.2.2.2.2.2.2.2.2 + 40 ≤ 6076897 then (if ¬ ((s_58.1 + 1) < 0 ∨ nL ≤ (s_58.1 + 1).toNatClampNeg) then ((gX9w_row s_58.2.1 s_58.2.2.1 s_58.2.2.2.1 s_58.2.2.2.2.1 s_58.2.2.2.2.2.1 (xs (s_58.1 + 1).toNatClampNeg)).bind fun x_360 => (if s_58.2.2.2.2.2.2.2.2.2.1 + 4 + 4 ≤ 1006402 ∧ s_58.2.2.2.2.2.2.2.2.2.2 + 40 + 40 ≤ 6076897 then some (.inl (s_58.1 + 4, x_360.1, x_360.2.1, x_360.2.2.1, x_360.2.2.2.1, x_360.2.2.2.2, x_353.2.1, x_353.2.2.1, x_353.2.2.2, s_58.2.2.2.2.2.2.2.2.2.1 + 4 + 4, s_58.2.2.2.2.2.2.2.2.2.2 + 40 + 40)) else none)) else none) else none)) else none) else (if ((xs s_58.1.toNatClampNeg) &&& 31) = 16 then (if ¬ ((s_58.1 + 1) < 0 ∨ nL ≤ (s_58.1 + 1).toNatClampNeg) then (if ¬ ((s_58.1 + 2) < 0 ∨ nL ≤ (s_58.1 + 2).toNatClampNeg) then ((gL_beats s_58.2.2.2.2.2.2.1 s_58.2.2.2.2.2.2.2.1 s_58.2.2.2.2.2.2.2.2.1 (xs (s_58.1 + 1).toNatClampNeg) (xs (s_58.1 + 2).toNatClampNeg)).bind fun x_371 => (if s_58.2.2.2.2.2.2.2.2.2.1 + 1 ≤ 1006402 ∧ s_58.2.2.2.2.2.2.2.2.2.2 + 6 ≤ 6076897 then (if ¬ ((s_58.1 + 1) < 0 ∨ nL ≤ (s_58.1 + 1).toNatClampNeg) then (if ¬ ((s_58.1 + 2) < 0 ∨ nL ≤ (s_58.1 + 2).toNatClampNeg) then ((gX9w_beats s_58.2.1 s_58.2.2.1 s_58.2.2.2.1 s_58.2.2.2.2.1 s_58.2.2.2.2.2.1 (xs (s_58.1 + 1).toNatClampNeg) (xs (s_58.1 + 2).toNatClampNeg)).bind fun x_379 => some (.inl (s_58.1 + 4, x_379.2.1, x_379.2.2.1, x_379.2.2.2.1, x_379.2.2.2.2.1, x_379.2.2.2.2.2, x_371.2.1, x_371.2.2.1, x_371.2.2.2, s_58.2.2.2.2.2.2.2.2.2.1 + 1, s_58.2.2.2.2.2.2.2.2.2.2 + 6))) else none) else none) else none)) else none) else none) else (if ((xs s_58.1.toNatClampNeg) &&& 31) = 17 then (if ¬ ((s_58.1 + 1) < 0 ∨ nL ≤ (s_58.1 + 1).toNatClampNeg) then ((gL_best s_58.2.2.2.2.2.2.1 s_58.2.2.2.2.2.2.2.1 s_58.2.2.2.2.2.2.2.2.1 (xs (s_58.1 + 1).toNatClampNeg)).bind fun x_387 => (if s_58.2.2.2.2.2.2.2.2.2.1 + 1 ≤ 1006402 ∧ s_58.2.2.2.2.2.2.2.2.2.2 + 6 ≤ 6076897 then (if ¬ ((s_58.1 + 1) < 0 ∨ nL ≤ (s_58.1 + 1).toNatClampNeg) then ((gX9w_best s_58.2.1 s_58.2.2.1 s_58.2.2.2.1 s_58.2.2.2.2.1 s_58.2.2.2.2.2.1 (xs (s_58.1 + 1).toNatClampNeg)).bind fun x_394 => (if s_58.2.2.2.2.2.2.2.2.2.1 + 1 + 30 ≤ 1006402 ∧ s_58.2.2.2.2.2.2.2.2.2.2 + 6 + 60 ≤ 6076897 then some (.inl (s_58.1 + 4, x_394.2.1, x_394.2.2.1, x_394.2.2.2.1, x_394.2.2.2.2.1, x_394.2.2.2.2.2, x_387.2.1, x_387.2.2.1, x_387.2.2.2, s_58.2.2.2.2.2.2.2.2.2.1 + 1 + 30, s_58.2.2.2.2.2.2.2.2.2.2 + 6 + 60)) else none)) else none) else none)) else none) else (if ((xs s_58.1.toNatClampNeg) &&& 31) = 18 then ((gX6_saved s_58.2.2.2.2.2.2.1 s_58.2.2.2.2.2.2.2.1).bind fun x_402 => ((gX9w_saved s_58.2.1 s_58.2.2.1 s_58.2.2.2.1 s_58.2.2.2.2.1 s_58.2.2.2.2.2.1).bind fun x_406 => (if s_58.2.2.2.2.2.2.2.2.2.1 + 60 ≤ 1006402 ∧ s_58.2.2.2.2.2.2.2.2.2.2 + 120 ≤ 6076897 then some (.inl (s_58.1 + 4, x_406.2.1, x_406.2.2.1, x_406.2.2.2.1, x_406.2.2.2.2.1, x_406.2.2.2.2.2, x_402.2.1, x_402.2.2, s_58.2.2.2.2.2.2.2.2.1, s_58.2.2.2.2.2.2.2.2.2.1 + 60, s_58.2.2.2.2.2.2.2.2.2.2 + 120)) else none))) else (if ((xs s_58.1.toNatClampNeg) &&& 31) = 19 then ((gX6_isSound s_58.2.2.2.2.2.2.1 s_58.2.2.2.2.2.2.2.1).bind fun x_414 => ((gX9w_isSound s_58.2.1 s_58.2.2.1 s_58.2.2.2.1 s_58.2.2.2.2.1 s_58.2.2.2.2.2.1).bind fun x_418 => (if s_58.2.2.2.2.2.2.2.2.2.1 + 30 ≤ 1006402 ∧ s_58.2.2.2.2.2.2.2.2.2.2 + 60 ≤ 6076897 then some (.inl (s_58.1 + 4, x_418.2.1, x_418.2.2.1, x_418.2.2.2.1, x_418.2.2.2.2.1, x_418.2.2.2.2.2, x_414.2.1, x_414.2.2, s_58.2.2.2.2.2.2.2.2.1, s_58.2.2.2.2.2.2.2.2.2.1 + 30, s_58.2.2.2.2.2.2.2.2.2.2 + 60)) else none))) else (if ((xs s_58.1.toNatClampNeg) &&& 31) = 20 then ((gX6_digest s_58.2.2.2.2.2.2.1 s_58.2.2.2.2.2.2.2.1).bind fun x_426 => ((gX9w_digest s_58.2.1 s_58.2.2.1 s_58.2.2.2.1 s_58.2.2.2.2.1 s_58.2.2.2.2.2.1).bind fun x_430 => (if s_58.2.2.2.2.2.2.2.2.2.1 + 300 ≤ 1006402 ∧ s_58.2.2.2.2.2.2.2.2.2.2 + 600 ≤ 6076897 then some (.inl (s_58.1 + 4, x_430.2.1, x_430.2.2.1, x_430.2.2.2.1, x_430.2.2.2.2.1, x_430.2.2.2.2.2, x_426.2.1, x_426.2.2, s_58.2.2.2.2.2.2.2.2.1, s_58.2.2.2.2.2.2.2.2.2.1 + 300, s_58.2.2.2.2.2.2.2.2.2.2 + 600)) else none))) else some (.inl (s_58.1 + 4, s_58.2.1, s_58.2.2.1, s_58.2.2.2.1, s_58.2.2.2.2.1, s_58.2.2.2.2.2.1, s_58.2.2.2.2.2.2.1, s_58.2.2.2.2.2.2.2.1, s_58.2.2.2.2.2.2.2.2.1, s_58.2.2.2.2.2.2.2.2.2.1, s_58.2.2.2.2.2.2.2.2.2.2))))))))))))))))))))))) else none)) else none)) yFuel (0, 0, MN0, ML0, MK0, MG0, CN0, CT0, 0, 0 + 1 + 22 + 1 + 47 + 1, 0 + 6 + 637 + 17 + 307 + 2)).bind fun b_58 => ybr b_58 (fun z_58 => (if z_58.2.2.2.2.2.2.2.2.2.1 ≤ 1006402 ∧ z_58.2.2.2.2.2.2.2.2.2.2 ≤ 6076897 then some 1 else none)) (fun r => some r)))))
set_option maxHeartbeats 4000000 in
set_option maxRecDepth 100000 in
theorem kL_law (l : Launch) (D : va_G) (cy : Nat → ClassId) (hl0 : l.stackTraces = false) (b nL : Nat) (xs : Nat → Int32) {res : Int32} (hR : fL_law nL xs = some res) {p : Program} {e : Env} {s : State} {m : MethodId} {args : Array Value} {below : List Frame} {meth : Method} {c : Code} {A : Nat → Prop} {H0 : Heap} {Q : State → Prop} (C : YC p s m args c cL_law RL D cy 7 A H0) (hX : va_X b nL xs s H0) (hbl : b < H0.size) (hbA : ¬ A b) (ret : ∀ {u : List va_W} {cells slots : Nat} {lv : List (Nat × Value)} {pc : Nat} (v : Int32), v = res → cells ≤ 1006402 → slots ≤ 6076897 → decode cL_law pc = .ok (.ireturn, 1) → X p l e room_1 s m args below meth c D A H0 7 Q u cells slots lv pc [.int v]) : X p l e room_1 s m args below meth c D A H0 7 Q [] 0 0 [(0, .ref b)] 0 [] := by
  unfold fL_law at hR
  refine xr_new (n := 3) (ci := 8) C tyX6 tyX6_ok in_X6 u_84 u_85 u_57 rfl [.null, .null, .null, .null, .null, .null] (by decide) (Nat.le_of_ble_eq_true rfl) (Nat.le_of_ble_eq_true rfl) dL_law_0 rfl (fun q_1 => ?_)
  refine xr_eq (bs' := [[(q_1, .inr (8, [.null, .null, .null, .null, .null, .null]))]]) rfl ?_
  refine xr_dup (n := 4) C dL_law_3 rfl rfl ?_
  obtain ⟨x_2, hx_2, hR⟩ := yf_b hR
  refine xr_callI (n := 7) (As := []) (rest := [.ref q_1]) C (kX6_init l D cy (x := q_1) hx_2) mX6_init u_86 u_87 rfl 1 [0] [] rfl (by decide +kernel) rfl rfl rfl rfl (Nat.le_of_ble_eq_true rfl) (Nat.le_of_ble_eq_true rfl) (Nat.le_of_ble_eq_true rfl) (Nat.le_of_ble_eq_true rfl) (Nat.le_of_ble_eq_true rfl) dL_law_4 rfl (fun v_3 u_4 hp_5 => ?_)
  obtain ⟨q_6, q_7, q_8, q_9, q_10, q_11, q_12, q_13, q_14, q_15, q_16, q_17, q_18, q_19, q_20, q_21, q_22, q_23, q_24, q_25, q_26, q_27, rfl, rfl⟩ := hp_5
  refine xr_perm C 23 [0, 1, 2, 3, 4, 5, 6, 7, 8, 9, 10, 11, 12, 13, 14, 15, 16, 17, 18, 19, 20, 21, 22] [] [[(q_1, .inr (8, [.ref q_6, .ref q_7, .ref q_8, .ref q_9, .ref q_10, .ref q_11]))], [(q_6, .inr (3, [.ref q_12, .ref q_13, .int 2, .int 2, .int 2, .int 0, .int 0]))], [(q_12, .inr (6, [.ref q_14]))], [(q_14, .inl (cy 1, 81, .inl (fun _ => 0)))], [(q_13, .inr (6, [.ref q_15]))], [(q_15, .inl (cy 1, 81, .inl (fun _ => 0)))], [(q_7, .inr (2, [.ref q_16, .ref q_17, .int 0, .int 0]))], [(q_16, .inr (6, [.ref q_18]))], [(q_18, .inl (cy 1, 81, .inl (fun _ => 0)))], [(q_17, .inr (6, [.ref q_19]))], [(q_19, .inl (cy 1, 81, .inl (fun _ => 0)))], [(q_8, .inr (5, [.ref q_20, .int 0, .int 0, .int 0]))], [(q_20, .inr (6, [.ref q_21]))], [(q_21, .inl (cy 1, 81, .inl (fun _ => 0)))], [(q_9, .inr (7, [.ref q_22, .ref q_23, .int 0, .int 0, .int 0, .int 0, .int 0, .int 0, .int 0, .int 0, .int 0]))], [(q_22, .inr (3, [.ref q_24, .ref q_25, .int 2, .int 2, .int 2, .int 0, .int 0]))], [(q_24, .inr (6, [.ref q_26]))], [(q_26, .inl (cy 1, 81, .inl (fun _ => 0)))], [(q_25, .inr (6, [.ref q_27]))], [(q_27, .inl (cy 1, 81, .inl (fun _ => 0)))], [(q_23, .inr (4, [.int 0, .int 0, .int 0, .int 0, .int 0, .int 0, .int 0, .int 0, .int 0, .int 0]))], [(q_10, .inr (4, [.int 0, .int 0, .int 0, .int 0, .int 0, .int 0, .int 0, .int 0, .int 0, .int 0]))], [(q_11, .inr (4, [.int 0, .int 0, .int 0, .int 0, .int 0, .int 0, .int 0, .int 0, .int 0, .int 0]))]] rfl (by decide +kernel) rfl ?_
  obtain ⟨z_28, rfl, rfl, rfl, rfl, rfl, rfl, rfl, rfl, rfl, rfl, rfl, rfl, rfl, rfl, rfl, rfl, rfl, rfl, rfl, rfl, rfl, rfl⟩ : ∃ z_28 : Nat → Nat, z_28 0 = q_6 ∧ z_28 1 = q_7 ∧ z_28 2 = q_8 ∧ z_28 3 = q_9 ∧ z_28 4 = q_10 ∧ z_28 5 = q_11 ∧ z_28 6 = q_12 ∧ z_28 7 = q_13 ∧ z_28 8 = q_14 ∧ z_28 9 = q_15 ∧ z_28 10 = q_16 ∧ z_28 11 = q_17 ∧ z_28 12 = q_18 ∧ z_28 13 = q_19 ∧ z_28 14 = q_20 ∧ z_28 15 = q_21 ∧ z_28 16 = q_22 ∧ z_28 17 = q_23 ∧ z_28 18 = q_24 ∧ z_28 19 = q_25 ∧ z_28 20 = q_26 ∧ z_28 21 = q_27 := ⟨fun i => match i with | 0 => q_6 | 1 => q_7 | 2 => q_8 | 3 => q_9 | 4 => q_10 | 5 => q_11 | 6 => q_12 | 7 => q_13 | 8 => q_14 | 9 => q_15 | 10 => q_16 | 11 => q_17 | 12 => q_18 | 13 => q_19 | 14 => q_20 | 15 => q_21 | 16 => q_22 | 17 => q_23 | 18 => q_24 | 19 => q_25 | 20 => q_26 | 21 => q_27 | _ => 0, rfl, rfl, rfl, rfl, rfl, rfl, rfl, rfl, rfl, rfl, rfl, rfl, rfl, rfl, rfl, rfl, rfl, rfl, rfl, rfl, rfl, rfl⟩
  refine xr_perm C 23 [0, 1, 2, 3, 4, 5, 6, 7, 8, 9, 10, 11, 12, 13, 14, 15, 16, 17, 18, 19, 20, 21, 22] [] [[(q_1, .inr (8, [.ref (z_28 0), .ref (z_28 1), .ref (z_28 2), .ref (z_28 3), .ref (z_28 4), .ref (z_28 5)]))], [((z_28 0), .inr (3, [.ref (z_28 6), .ref (z_28 7), .int 2, .int 2, .int 2, .int 0, .int 0]))], [((z_28 6), .inr (6, [.ref (z_28 8)]))], [((z_28 8), .inl (cy 1, 81, .inl (fun _ => 0)))], [((z_28 7), .inr (6, [.ref (z_28 9)]))], [((z_28 9), .inl (cy 1, 81, .inl (fun _ => 0)))], [((z_28 1), .inr (2, [.ref (z_28 10), .ref (z_28 11), .int 0, .int 0]))], [((z_28 10), .inr (6, [.ref (z_28 12)]))], [((z_28 12), .inl (cy 1, 81, .inl (fun _ => 0)))], [((z_28 11), .inr (6, [.ref (z_28 13)]))], [((z_28 13), .inl (cy 1, 81, .inl (fun _ => 0)))], [((z_28 2), .inr (5, [.ref (z_28 14), .int 0, .int 0, .int 0]))], [((z_28 14), .inr (6, [.ref (z_28 15)]))], [((z_28 15), .inl (cy 1, 81, .inl (fun _ => 0)))], [((z_28 3), .inr (7, [.ref (z_28 16), .ref (z_28 17), .int 0, .int 0, .int 0, .int 0, .int 0, .int 0, .int 0, .int 0, .int 0]))], [((z_28 16), .inr (3, [.ref (z_28 18), .ref (z_28 19), .int 2, .int 2, .int 2, .int 0, .int 0]))], [((z_28 18), .inr (6, [.ref (z_28 20)]))], [((z_28 20), .inl (cy 1, 81, .inl (fun _ => 0)))], [((z_28 19), .inr (6, [.ref (z_28 21)]))], [((z_28 21), .inl (cy 1, 81, .inl (fun _ => 0)))], [((z_28 17), .inr (4, [.int 0, .int 0, .int 0, .int 0, .int 0, .int 0, .int 0, .int 0, .int 0, .int 0]))], [((z_28 4), .inr (4, [.int 0, .int 0, .int 0, .int 0, .int 0, .int 0, .int 0, .int 0, .int 0, .int 0]))], [((z_28 5), .inr (4, [.int 0, .int 0, .int 0, .int 0, .int 0, .int 0, .int 0, .int 0, .int 0, .int 0]))]] rfl (by decide +kernel) rfl ?_
  refine xr_pack (CWL q_1 z_28 cy CN0 CT0) [] rfl ?_
  refine xr_eq (bs' := [CW q_1 z_28 cy CN0 CT0]) rfl ?_
  refine xr_astore_n (n := 8) C [(1, .ref q_1), (0, .ref b)] dL_law_7 (by decide) rfl rfl ?_
  refine xr_new (n := 11) (ci := 11) C tyX9 tyX9_ok in_X9 u_1188 u_1189 u_64 rfl [.int 0, .null, .null, .null, .null, .null, .int 0, .int 0, .long 0, .null, .int 0, .int 0, .int 0, .int 0, .null, .int 0, .null] (by decide) (Nat.le_of_ble_eq_true rfl) (Nat.le_of_ble_eq_true rfl) dL_law_8 rfl (fun q_29 => ?_)
  refine xr_eq (bs' := [CW q_1 z_28 cy CN0 CT0, [(q_29, .inr (11, [.int 0, .null, .null, .null, .null, .null, .int 0, .int 0, .long 0, .null, .int 0, .int 0, .int 0, .int 0, .null, .int 0, .null]))]]) rfl ?_
  refine xr_dup (n := 12) C dL_law_11 rfl rfl ?_
  obtain ⟨x_30, hx_30, hR⟩ := yf_b hR
  obtain rfl := iX9_init hx_30
  refine xr_callI (n := 15) (As := []) (rest := [.ref q_29]) C (kX9_init l D cy (g := q_29) hx_30) mX9_init u_1190 u_1191 rfl 2 [1] [0] rfl (by decide +kernel) rfl rfl rfl rfl (Nat.le_of_ble_eq_true rfl) (Nat.le_of_ble_eq_true rfl) (Nat.le_of_ble_eq_true rfl) (Nat.le_of_ble_eq_true rfl) (Nat.le_of_ble_eq_true rfl) dL_law_12 rfl (fun v_31 u_32 hp_33 => ?_)
  obtain ⟨q_34, q_35, q_36, q_37, q_38, q_39, q_40, q_41, q_42, q_43, q_44, q_45, q_46, q_47, q_48, q_49, q_50, rfl, rfl⟩ := hp_33
  refine xr_perm C 19 [18, 0, 1, 2, 3, 4, 5, 6, 7, 8, 9, 10, 11, 12, 13, 14, 15, 16, 17] [] [CW q_1 z_28 cy CN0 CT0, [(q_29, .inr (11, [.int rX9_init.1, .ref q_34, .ref q_35, .ref q_36, .ref q_37, .ref q_38, .int rX9_init.2.1, .int rX9_init.2.2.1, .long rX9_init.2.2.2.1, .null, .int rX9_init.2.2.2.2.1, .int rX9_init.2.2.2.2.2.1, .int rX9_init.2.2.2.2.2.2.1, .int rX9_init.2.2.2.2.2.2.2.1, .ref q_39, .int rX9_init.2.2.2.2.2.2.2.2.1, .ref q_40]))], [(q_34, .inr (10, [.int rX9_init.2.2.2.2.2.2.2.2.2.1, .int rX9_init.2.2.2.2.2.2.2.2.2.2.1, .int rX9_init.2.2.2.2.2.2.2.2.2.2.2.1, .int rX9_init.2.2.2.2.2.2.2.2.2.2.2.2.1, .int rX9_init.2.2.2.2.2.2.2.2.2.2.2.2.2.1, .ref q_41, .ref q_42]))], [(q_41, .inl (cy 3, rX9_init.2.2.2.2.2.2.2.2.2.2.2.2.2.2.1, .inr (.inr (.inr (.inr (yad q_43))))))], xg_rows q_43 rX9_init.2.2.2.2.2.2.2.2.2.2.2.2.2.2.1 (cy 1) rX9_init.2.2.2.2.2.2.2.2.2.2.2.2.2.2.2.1 rX9_init.2.2.2.2.2.2.2.2.2.2.2.2.2.2.2.2.1, [(q_42, .inl (cy 3, rX9_init.2.2.2.2.2.2.2.2.2.2.2.2.2.2.2.2.2.1, .inr (.inr (.inr (.inr (yad q_44))))))], xg_rows q_44 rX9_init.2.2.2.2.2.2.2.2.2.2.2.2.2.2.2.2.2.1 (cy 1) rX9_init.2.2.2.2.2.2.2.2.2.2.2.2.2.2.2.2.2.2.1 rX9_init.2.2.2.2.2.2.2.2.2.2.2.2.2.2.2.2.2.2.2, [(q_35, .inl (cy 4, 5, .inr (.inr (.inr (.inr (yad q_45))))))], xg_rows q_45 5 (cy 2) 5 (fun _ _ => 0), [(q_36, .inl (cy 4, 5, .inr (.inr (.inr (.inr (yad q_46))))))], xg_rows q_46 5 (cy 2) 5 (fun _ _ => 0), [(q_37, .inl (cy 3, 5, .inr (.inr (.inr (.inr (yad q_47))))))], xg_rows q_47 5 (cy 1) 5 (fun _ _ => 0), [(q_38, .inl (cy 3, 5, .inr (.inr (.inr (.inr (yad q_48))))))], xg_rows q_48 5 (cy 1) 5 (fun _ _ => 0), [(q_39, .inl (cy 3, 0, .inr (.inr (.inr (.inr (yad q_49))))))], xg_rows q_49 0 (cy 1) 0 (fun _ _ => 0), [(q_40, .inl (cy 3, 0, .inr (.inr (.inr (.inr (yad q_50))))))], xg_rows q_50 0 (cy 1) 0 (fun _ _ => 0)] rfl (by decide +kernel) rfl ?_
  obtain ⟨z_51, rfl, rfl, rfl, rfl, rfl, rfl, rfl, rfl, rfl⟩ : ∃ z_51 : Nat → Nat, z_51 0 = q_34 ∧ z_51 1 = q_35 ∧ z_51 2 = q_36 ∧ z_51 3 = q_37 ∧ z_51 4 = q_38 ∧ z_51 6 = q_39 ∧ z_51 7 = q_40 ∧ z_51 8 = q_41 ∧ z_51 9 = q_42 := ⟨fun i => match i with | 0 => q_34 | 1 => q_35 | 2 => q_36 | 3 => q_37 | 4 => q_38 | 6 => q_39 | 7 => q_40 | 8 => q_41 | 9 => q_42 | _ => 0, rfl, rfl, rfl, rfl, rfl, rfl, rfl, rfl, rfl⟩
  obtain ⟨z_52, rfl, rfl, rfl, rfl, rfl, rfl, rfl, rfl⟩ : ∃ z_52 : Nat → Nat → Nat, z_52 0 = q_43 ∧ z_52 1 = q_44 ∧ z_52 2 = q_45 ∧ z_52 3 = q_46 ∧ z_52 4 = q_47 ∧ z_52 5 = q_48 ∧ z_52 6 = q_49 ∧ z_52 7 = q_50 := ⟨fun i => match i with | 0 => q_43 | 1 => q_44 | 2 => q_45 | 3 => q_46 | 4 => q_47 | 5 => q_48 | 6 => q_49 | 7 => q_50 | _ => fun _ => 0, rfl, rfl, rfl, rfl, rfl, rfl, rfl, rfl⟩
  refine xr_perm C 19 [1, 2, 3, 4, 5, 6, 7, 8, 9, 10, 11, 12, 13, 14, 15, 16, 17, 18, 0] [] [[(q_29, .inr (11, [.int rX9_init.1, .ref (z_51 0), .ref (z_51 1), .ref (z_51 2), .ref (z_51 3), .ref (z_51 4), .int rX9_init.2.1, .int rX9_init.2.2.1, .long rX9_init.2.2.2.1, .null, .int rX9_init.2.2.2.2.1, .int rX9_init.2.2.2.2.2.1, .int rX9_init.2.2.2.2.2.2.1, .int rX9_init.2.2.2.2.2.2.2.1, .ref (z_51 6), .int rX9_init.2.2.2.2.2.2.2.2.1, .ref (z_51 7)]))], [((z_51 0), .inr (10, [.int rX9_init.2.2.2.2.2.2.2.2.2.1, .int rX9_init.2.2.2.2.2.2.2.2.2.2.1, .int rX9_init.2.2.2.2.2.2.2.2.2.2.2.1, .int rX9_init.2.2.2.2.2.2.2.2.2.2.2.2.1, .int rX9_init.2.2.2.2.2.2.2.2.2.2.2.2.2.1, .ref (z_51 8), .ref (z_51 9)]))], [((z_51 8), .inl (cy 3, rX9_init.2.2.2.2.2.2.2.2.2.2.2.2.2.2.1, .inr (.inr (.inr (.inr (yad (z_52 0)))))))], xg_rows (z_52 0) rX9_init.2.2.2.2.2.2.2.2.2.2.2.2.2.2.1 (cy 1) rX9_init.2.2.2.2.2.2.2.2.2.2.2.2.2.2.2.1 rX9_init.2.2.2.2.2.2.2.2.2.2.2.2.2.2.2.2.1, [((z_51 9), .inl (cy 3, rX9_init.2.2.2.2.2.2.2.2.2.2.2.2.2.2.2.2.2.1, .inr (.inr (.inr (.inr (yad (z_52 1)))))))], xg_rows (z_52 1) rX9_init.2.2.2.2.2.2.2.2.2.2.2.2.2.2.2.2.2.1 (cy 1) rX9_init.2.2.2.2.2.2.2.2.2.2.2.2.2.2.2.2.2.2.1 rX9_init.2.2.2.2.2.2.2.2.2.2.2.2.2.2.2.2.2.2.2, [((z_51 1), .inl (cy 4, 5, .inr (.inr (.inr (.inr (yad (z_52 2)))))))], xg_rows (z_52 2) 5 (cy 2) 5 (fun _ _ => 0), [((z_51 2), .inl (cy 4, 5, .inr (.inr (.inr (.inr (yad (z_52 3)))))))], xg_rows (z_52 3) 5 (cy 2) 5 (fun _ _ => 0), [((z_51 3), .inl (cy 3, 5, .inr (.inr (.inr (.inr (yad (z_52 4)))))))], xg_rows (z_52 4) 5 (cy 1) 5 (fun _ _ => 0), [((z_51 4), .inl (cy 3, 5, .inr (.inr (.inr (.inr (yad (z_52 5)))))))], xg_rows (z_52 5) 5 (cy 1) 5 (fun _ _ => 0), [((z_51 6), .inl (cy 3, 0, .inr (.inr (.inr (.inr (yad (z_52 6)))))))], xg_rows (z_52 6) 0 (cy 1) 0 (fun _ _ => 0), [((z_51 7), .inl (cy 3, 0, .inr (.inr (.inr (.inr (yad (z_52 7)))))))], xg_rows (z_52 7) 0 (cy 1) 0 (fun _ _ => 0), CW q_1 z_28 cy CN0 CT0] rfl (by decide +kernel) rfl ?_
  refine xr_pack (MWL q_29 z_51 z_52 cy 0 MN0 ML0 MK0 MG0) [CW q_1 z_28 cy CN0 CT0] rfl ?_
  refine xr_eq (bs' := [MW q_29 z_51 z_52 cy 0 MN0 ML0 MK0 MG0, CW q_1 z_28 cy CN0 CT0]) rfl ?_
  refine xr_astore_n (n := 16) C [(2, .ref q_29), (1, .ref q_1), (0, .ref b)] dL_law_15 (by decide) rfl rfl ?_
  refine xr_new (n := 19) (ci := 9) C tyX7 tyX7_ok in_X7 u_550 u_551 u_66 rfl [.long 0, .null] (by decide) (Nat.le_of_ble_eq_true rfl) (Nat.le_of_ble_eq_true rfl) dL_law_16 rfl (fun q_53 => ?_)
  refine xr_eq (bs' := [MW q_29 z_51 z_52 cy 0 MN0 ML0 MK0 MG0, CW q_1 z_28 cy CN0 CT0, [(q_53, .inr (9, [.long 0, .null]))]]) rfl ?_
  refine xr_dup (n := 20) C dL_law_19 rfl rfl ?_
  obtain ⟨x_54, hx_54, hR⟩ := yf_b hR
  refine xr_callINp (n := 23) (As := []) (rest := [.ref q_53]) C (kX7_init l D cy (vo := q_53) hx_54) mX7_init (host := RL) (List.mem_of_getElem? (i := 45) rfl) u_553 rfl 3 [2] [0, 1] rfl (by decide +kernel) rfl rfl rfl rfl (Nat.le_of_ble_eq_true rfl) (Nat.le_of_ble_eq_true rfl) (Nat.le_of_ble_eq_true rfl) (Nat.le_of_ble_eq_true rfl) (Nat.le_of_ble_eq_true rfl) dL_law_20 rfl (fun _ _ hp => hp.2) (fun v_55 hp_57 => ?_)
  obtain ⟨rfl, -⟩ := hp_57
  refine xr_astore_n (n := 24) C [(3, .ref q_53), (2, .ref q_29), (1, .ref q_1), (0, .ref b)] dL_law_23 (by decide) rfl rfl ?_
  refine xr_iconst (n := 25) (v := 0) C dL_law_24 rfl rfl ?_
  refine xr_istore (n := 27) C [(4, .int 0), (3, .ref q_53), (2, .ref q_29), (1, .ref q_1), (0, .ref b)] dL_law_25 (by decide) rfl rfl ?_
  refine xr_lv (lv' := [(0, .ref b), (1, .ref q_1), (2, .ref q_29), (3, .ref q_53), (4, .int 0)]) [4, 3, 2, 1, 0] rfl ?_
  obtain ⟨b_58, hb_58, hR⟩ := yf_b hR
  have K_58 : ∀ z_58, b_58 = .inl z_58 → ∀ a0_58 : Nat → Nat, ∀ a1_58 : Nat → Nat → Nat, ∀ a2_58 : Value, X p l e room_1 s m args below meth c D A H0 7 Q [MW q_29 a0_58 a1_58 cy z_58.2.1 z_58.2.2.1 z_58.2.2.2.1 z_58.2.2.2.2.1 z_58.2.2.2.2.2.1, CW q_1 z_28 cy z_58.2.2.2.2.2.2.1 z_58.2.2.2.2.2.2.2.1, [(q_53, .inr (9, [.long z_58.2.2.2.2.2.2.2.2.1, a2_58]))]] z_58.2.2.2.2.2.2.2.2.2.1 z_58.2.2.2.2.2.2.2.2.2.2 [] 901 [] := by
    intro z_58 e_58; subst e_58; replace hR := ybr_l hR
    intro a0_58 a1_58 a2_58
    obtain ⟨g_59, hR⟩ := yf_g hR
    refine xr_iconst (n := 902) (v := 1) C dL_law_901 rfl rfl ?_
    obtain rfl := Option.some.inj hR
    exact ret 1 rfl g_59.1 g_59.2 dL_law_902
  refine y_loop (P := fun (s_58 : Int32 × Nat × (Nat → Int32) × Int64 × (Nat → Nat) × (Nat → Nat → Nat → Int32) × (Nat → Int32) × (Nat → Nat → Int32) × Int64 × Nat × Nat) => ∀ a0_58 : Nat → Nat, ∀ a1_58 : Nat → Nat → Nat, ∀ a2_58 : Value, X p l e room_1 s m args below meth c D A H0 7 Q [MW q_29 a0_58 a1_58 cy s_58.2.1 s_58.2.2.1 s_58.2.2.2.1 s_58.2.2.2.2.1 s_58.2.2.2.2.2.1, CW q_1 z_28 cy s_58.2.2.2.2.2.2.1 s_58.2.2.2.2.2.2.2.1, [(q_53, .inr (9, [.long s_58.2.2.2.2.2.2.2.2.1, a2_58]))]] s_58.2.2.2.2.2.2.2.2.2.1 s_58.2.2.2.2.2.2.2.2.2.2 [(0, .ref b), (1, .ref q_1), (2, .ref q_29), (3, .ref q_53), (4, .int s_58.1)] 27 []) ?_ _ (0, 0, MN0, ML0, MK0, MG0, CN0, CT0, 0, 0 + 1 + 22 + 1 + 47 + 1, 0 + 6 + 637 + 17 + 307 + 2) hb_58 z_51 z_52 .null
  intro s_58 o_58 ho_58 hk_58 hx_58 a0_58 a1_58 a2_58
  obtain ⟨g_60, ho_58⟩ := yf_g ho_58
  refine xr_iload (n := 29) (j := 4) C dL_law_27 rfl rfl ?_
  refine xr_aload_n (n := 30) (j := 0) C dL_law_29 rfl rfl ?_
  refine xr_slen (n := 31) C hX hbl hbA dL_law_30 rfl ?_
  refine xr_iconst (n := 32) (v := 4) C dL_law_31 rfl rfl ?_
  refine xr_isub (n := 33) C dL_law_32 rfl ?_
  refine xr_icmp_gt (tgt := 901) (n := 36) C dL_law_33 rfl rfl (fun c_61 => ?_) (fun c_61 => ?_)
  · replace ho_58 := yf_t c_61 ho_58
    refine xr_lv (lv' := []) [] rfl ?_
    have e_62 := hx_58 _ (Option.some.inj ho_58).symm
    exact K_58 (s_58.1, s_58.2.1, s_58.2.2.1, s_58.2.2.2.1, s_58.2.2.2.2.1, s_58.2.2.2.2.2.1, s_58.2.2.2.2.2.2.1, s_58.2.2.2.2.2.2.2.1, s_58.2.2.2.2.2.2.2.2.1, s_58.2.2.2.2.2.2.2.2.2.1, s_58.2.2.2.2.2.2.2.2.2.2) e_62.symm a0_58 a1_58 a2_58
  · replace ho_58 := yf_f c_61 ho_58
    refine xr_aload_n (n := 37) (j := 0) C dL_law_36 rfl rfl ?_
    refine xr_iload (n := 39) (j := 4) C dL_law_37 rfl rfl ?_
    obtain ⟨g_63, ho_58⟩ := yf_g ho_58
    refine xr_sld (n := 40) C hX hbl hbA g_63 dL_law_39 rfl ?_
    refine xr_bipush (n := 42) (v := 31) C dL_law_40 rfl rfl ?_
    refine xr_iand (n := 43) C dL_law_42 rfl ?_
    by_cases c_64 : ((xs s_58.1.toNatClampNeg) &&& 31) = 0
    · replace ho_58 := yf_t c_64 ho_58
      refine xr_tableIn (off := 97) (tgt := 140) C dL_law_43 (by rw [c_64]; decide) (by rw [c_64]; decide) (by rw [c_64]; decide) rfl ?_
      refine xr_aload_n (n := 141) (j := 1) C dL_law_140 rfl rfl ?_
      refine xr_aload_n (n := 142) (j := 0) C dL_law_141 rfl rfl ?_
      refine xr_iload (n := 144) (j := 4) C dL_law_142 rfl rfl ?_
      refine xr_iconst (n := 145) (v := 1) C dL_law_144 rfl rfl ?_
      refine xr_iadd (n := 146) C dL_law_145 rfl ?_
      obtain ⟨g_65, ho_58⟩ := yf_g ho_58
      refine xr_sld (n := 147) C hX hbl hbA g_65 dL_law_146 rfl ?_
      refine xr_aload_n (n := 148) (j := 0) C dL_law_147 rfl rfl ?_
      refine xr_iload (n := 150) (j := 4) C dL_law_148 rfl rfl ?_
      refine xr_iconst (n := 151) (v := 2) C dL_law_150 rfl rfl ?_
      refine xr_iadd (n := 152) C dL_law_151 rfl ?_
      obtain ⟨g_66, ho_58⟩ := yf_g ho_58
      refine xr_sld (n := 153) C hX hbl hbA g_66 dL_law_152 rfl ?_
      refine xr_aload_n (n := 154) (j := 0) C dL_law_153 rfl rfl ?_
      refine xr_iload (n := 156) (j := 4) C dL_law_154 rfl rfl ?_
      refine xr_iconst (n := 157) (v := 3) C dL_law_156 rfl rfl ?_
      refine xr_iadd (n := 158) C dL_law_157 rfl ?_
      obtain ⟨g_67, ho_58⟩ := yf_g ho_58
      refine xr_sld (n := 159) C hX hbl hbA g_67 dL_law_158 rfl ?_
      refine xr_aload_n (n := 160) (j := 3) C dL_law_159 rfl rfl ?_
      obtain ⟨x_68, hx_68, ho_58⟩ := yf_b ho_58
      obtain ⟨g_69, ho_58⟩ := yf_g ho_58
      refine xr_callSW (n := 163) (As := [.ref q_1, .int (xs (s_58.1 + 1).toNatClampNeg), .int (xs (s_58.1 + 2).toNatClampNeg), .int (xs (s_58.1 + 3).toNatClampNeg), .ref q_53]) (rest := []) C (kgL_shape l D cy hl0 (x := q_1) (a := z_28) (o := q_53) (os := a2_58) (n := s_58.2.2.2.2.2.2.1) (t := s_58.2.2.2.2.2.2.2.1) (on := s_58.2.2.2.2.2.2.2.2.1) (i1 := xs (s_58.1 + 1).toNatClampNeg) (i2 := xs (s_58.1 + 2).toNatClampNeg) (i3 := xs (s_58.1 + 3).toNatClampNeg) hx_68) mL_shape u_563 u_564 3 [1, 2] [0] rfl (by decide +kernel) rfl rfl rfl rfl (Nat.le_of_ble_eq_true rfl) (Nat.le_of_ble_eq_true rfl) (Nat.le_of_ble_eq_true rfl) g_69.1 g_69.2 dL_law_160 rfl (fun v_70 u_71 hp_72 => ?_)
      obtain ⟨q_73, rfl, rfl⟩ := hp_72
      refine xr_perm C 3 [2, 0, 1] [] [MW q_29 a0_58 a1_58 cy s_58.2.1 s_58.2.2.1 s_58.2.2.2.1 s_58.2.2.2.2.1 s_58.2.2.2.2.2.1, CW q_1 z_28 cy x_68.2.1 x_68.2.2.1, [(q_53, .inr (9, [.long x_68.2.2.2, q_73]))]] rfl (by decide +kernel) rfl ?_
      refine xr_st (st' := [.int x_68.1]) rfl ?_
      refine xr_istore (n := 165) C [(5, .int x_68.1), (0, .ref b), (1, .ref q_1), (2, .ref q_29), (3, .ref q_53), (4, .int s_58.1)] dL_law_163 (by decide) rfl rfl ?_
      refine xr_aload_n (n := 166) (j := 3) C dL_law_165 rfl rfl ?_
      refine xr_aload_n (n := 167) (j := 1) C dL_law_166 rfl rfl ?_
      refine xr_iload (n := 169) (j := 5) C dL_law_167 rfl rfl ?_
      refine xr_iconst (n := 170) (v := 1) C dL_law_169 rfl rfl ?_
      refine xr_iadd (n := 171) C dL_law_170 rfl ?_
      obtain ⟨g_74, ho_58⟩ := yf_g ho_58
      refine xr_sld (n := 172) C hX hbl hbA g_74 dL_law_171 rfl ?_
      refine xr_aload_n (n := 173) (j := 1) C dL_law_172 rfl rfl ?_
      refine xr_iload (n := 175) (j := 5) C dL_law_173 rfl rfl ?_
      refine xr_iconst (n := 176) (v := 2) C dL_law_175 rfl rfl ?_
      refine xr_iadd (n := 177) C dL_law_176 rfl ?_
      obtain ⟨g_75, ho_58⟩ := yf_g ho_58
      refine xr_sld (n := 178) C hX hbl hbA g_75 dL_law_177 rfl ?_
      refine xr_aload_n (n := 179) (j := 1) C dL_law_178 rfl rfl ?_
      refine xr_iload (n := 181) (j := 5) C dL_law_179 rfl rfl ?_
      refine xr_iconst (n := 182) (v := 3) C dL_law_181 rfl rfl ?_
      refine xr_iadd (n := 183) C dL_law_182 rfl ?_
      obtain ⟨g_76, ho_58⟩ := yf_g ho_58
      refine xr_sld (n := 184) C hX hbl hbA g_76 dL_law_183 rfl ?_
      obtain ⟨x_77, hx_77, ho_58⟩ := yf_b ho_58
      obtain ⟨g_78, ho_58⟩ := yf_g ho_58
      refine xr_callVP (n := 187) (As := [.int (xs (s_58.1 + 1).toNatClampNeg), .int (xs (s_58.1 + 2).toNatClampNeg), .int (xs (s_58.1 + 3).toNatClampNeg)]) (rest := []) C (kgX9w_shape l D cy (g := q_29) (a := a0_58) (ad := a1_58) (sh := s_58.2.1) (n := s_58.2.2.1) (L := s_58.2.2.2.1) (k := s_58.2.2.2.2.1) (G := s_58.2.2.2.2.2.1) (i1 := xs (s_58.1 + 1).toNatClampNeg) (i2 := xs (s_58.1 + 2).toNatClampNeg) (i3 := xs (s_58.1 + 3).toNatClampNeg) hx_77) mX9_shape u_1294 u_1295 u_1296 0 rfl (MW_head _ _ _ _ _ _ _ _ _) rfl 3 [0] [1, 2] rfl (by decide +kernel) rfl rfl rfl rfl (Nat.le_of_ble_eq_true rfl) (Nat.le_of_ble_eq_true rfl) (Nat.le_of_ble_eq_true rfl) g_78.1 g_78.2 dL_law_184 rfl (fun v_79 u_80 hp_81 => ?_)
      obtain ⟨q_82, q_83, rfl, rfl⟩ := hp_81
      refine xr_perm C 3 [0, 1, 2] [] [MW q_29 q_82 q_83 cy x_77.2.1 x_77.2.2.1 x_77.2.2.2.1 x_77.2.2.2.2.1 x_77.2.2.2.2.2, CW q_1 z_28 cy x_68.2.1 x_68.2.2.1, [(q_53, .inr (9, [.long x_68.2.2.2, q_73]))]] rfl (by decide +kernel) rfl ?_
      refine xr_st (st' := [.int x_77.1]) rfl ?_
      refine xr_istore (n := 189) C [(6, .int x_77.1), (5, .int x_68.1), (0, .ref b), (1, .ref q_1), (2, .ref q_29), (3, .ref q_53), (4, .int s_58.1)] dL_law_187 (by decide) rfl rfl ?_
      refine xr_goto (tgt := 895) C dL_law_189 rfl ?_
      refine xr_iinc (j := 6) (v := s_58.1 + 4) (n := 898) C [(4, .int (s_58.1 + 4)), (6, .int x_77.1), (5, .int x_68.1), (0, .ref b), (1, .ref q_1), (2, .ref q_29), (3, .ref q_53)] dL_law_895 rfl rfl (by decide) rfl rfl ?_
      refine xr_goto (tgt := 27) C dL_law_898 rfl ?_
      refine xr_lv (lv' := [(0, .ref b), (1, .ref q_1), (2, .ref q_29), (3, .ref q_53), (4, .int (s_58.1 + 4))]) [3, 4, 5, 6, 0] rfl ?_
      exact hk_58 (s_58.1 + 4, x_77.2.1, x_77.2.2.1, x_77.2.2.2.1, x_77.2.2.2.2.1, x_77.2.2.2.2.2, x_68.2.1, x_68.2.2.1, x_68.2.2.2, s_58.2.2.2.2.2.2.2.2.2.1 + 1 + 20, s_58.2.2.2.2.2.2.2.2.2.2 + 6 + 180) (Option.some.inj ho_58).symm q_82 q_83 q_73
    replace ho_58 := yf_f c_64 ho_58
    by_cases c_84 : ((xs s_58.1.toNatClampNeg) &&& 31) = 1
    · replace ho_58 := yf_t c_84 ho_58
      refine xr_tableIn (off := 149) (tgt := 192) C dL_law_43 (by rw [c_84]; decide) (by rw [c_84]; decide) (by rw [c_84]; decide) rfl ?_
      refine xr_aload_n (n := 193) (j := 1) C dL_law_192 rfl rfl ?_
      refine xr_aload_n (n := 194) (j := 0) C dL_law_193 rfl rfl ?_
      refine xr_iload (n := 196) (j := 4) C dL_law_194 rfl rfl ?_
      refine xr_iconst (n := 197) (v := 1) C dL_law_196 rfl rfl ?_
      refine xr_iadd (n := 198) C dL_law_197 rfl ?_
      obtain ⟨g_85, ho_58⟩ := yf_g ho_58
      refine xr_sld (n := 199) C hX hbl hbA g_85 dL_law_198 rfl ?_
      refine xr_aload_n (n := 200) (j := 0) C dL_law_199 rfl rfl ?_
      refine xr_iload (n := 202) (j := 4) C dL_law_200 rfl rfl ?_
      refine xr_iconst (n := 203) (v := 2) C dL_law_202 rfl rfl ?_
      refine xr_iadd (n := 204) C dL_law_203 rfl ?_
      obtain ⟨g_86, ho_58⟩ := yf_g ho_58
      refine xr_sld (n := 205) C hX hbl hbA g_86 dL_law_204 rfl ?_
      refine xr_aload_n (n := 206) (j := 0) C dL_law_205 rfl rfl ?_
      refine xr_iload (n := 208) (j := 4) C dL_law_206 rfl rfl ?_
      refine xr_iconst (n := 209) (v := 3) C dL_law_208 rfl rfl ?_
      refine xr_iadd (n := 210) C dL_law_209 rfl ?_
      obtain ⟨g_87, ho_58⟩ := yf_g ho_58
      refine xr_sld (n := 211) C hX hbl hbA g_87 dL_law_210 rfl ?_
      refine xr_aload_n (n := 212) (j := 3) C dL_law_211 rfl rfl ?_
      obtain ⟨x_88, hx_88, ho_58⟩ := yf_b ho_58
      obtain ⟨g_89, ho_58⟩ := yf_g ho_58
      refine xr_callSW (n := 215) (As := [.ref q_1, .int (xs (s_58.1 + 1).toNatClampNeg), .int (xs (s_58.1 + 2).toNatClampNeg), .int (xs (s_58.1 + 3).toNatClampNeg), .ref q_53]) (rest := []) C (kgL_left l D cy hl0 (x := q_1) (a := z_28) (o := q_53) (os := a2_58) (n := s_58.2.2.2.2.2.2.1) (t := s_58.2.2.2.2.2.2.2.1) (on := s_58.2.2.2.2.2.2.2.2.1) (i1 := xs (s_58.1 + 1).toNatClampNeg) (i2 := xs (s_58.1 + 2).toNatClampNeg) (i3 := xs (s_58.1 + 3).toNatClampNeg) hx_88) mL_left u_651 u_652 3 [1, 2] [0] rfl (by decide +kernel) rfl rfl rfl rfl (Nat.le_of_ble_eq_true rfl) (Nat.le_of_ble_eq_true rfl) (Nat.le_of_ble_eq_true rfl) g_89.1 g_89.2 dL_law_212 rfl (fun v_90 u_91 hp_92 => ?_)
      obtain ⟨q_93, rfl, rfl⟩ := hp_92
      refine xr_perm C 3 [2, 0, 1] [] [MW q_29 a0_58 a1_58 cy s_58.2.1 s_58.2.2.1 s_58.2.2.2.1 s_58.2.2.2.2.1 s_58.2.2.2.2.2.1, CW q_1 z_28 cy x_88.2.1 x_88.2.2.1, [(q_53, .inr (9, [.long x_88.2.2.2, q_93]))]] rfl (by decide +kernel) rfl ?_
      refine xr_st (st' := [.int x_88.1]) rfl ?_
      refine xr_istore (n := 217) C [(5, .int x_88.1), (0, .ref b), (1, .ref q_1), (2, .ref q_29), (3, .ref q_53), (4, .int s_58.1)] dL_law_215 (by decide) rfl rfl ?_
      refine xr_aload_n (n := 218) (j := 3) C dL_law_217 rfl rfl ?_
      refine xr_aload_n (n := 219) (j := 1) C dL_law_218 rfl rfl ?_
      refine xr_iload (n := 221) (j := 5) C dL_law_219 rfl rfl ?_
      refine xr_iconst (n := 222) (v := 1) C dL_law_221 rfl rfl ?_
      refine xr_iadd (n := 223) C dL_law_222 rfl ?_
      obtain ⟨g_94, ho_58⟩ := yf_g ho_58
      refine xr_sld (n := 224) C hX hbl hbA g_94 dL_law_223 rfl ?_
      refine xr_aload_n (n := 225) (j := 1) C dL_law_224 rfl rfl ?_
      refine xr_iload (n := 227) (j := 5) C dL_law_225 rfl rfl ?_
      refine xr_iconst (n := 228) (v := 2) C dL_law_227 rfl rfl ?_
      refine xr_iadd (n := 229) C dL_law_228 rfl ?_
      obtain ⟨g_95, ho_58⟩ := yf_g ho_58
      refine xr_sld (n := 230) C hX hbl hbA g_95 dL_law_229 rfl ?_
      refine xr_aload_n (n := 231) (j := 1) C dL_law_230 rfl rfl ?_
      refine xr_iload (n := 233) (j := 5) C dL_law_231 rfl rfl ?_
      refine xr_iconst (n := 234) (v := 3) C dL_law_233 rfl rfl ?_
      refine xr_iadd (n := 235) C dL_law_234 rfl ?_
      obtain ⟨g_96, ho_58⟩ := yf_g ho_58
      refine xr_sld (n := 236) C hX hbl hbA g_96 dL_law_235 rfl ?_
      obtain ⟨x_97, hx_97, ho_58⟩ := yf_b ho_58
      refine xr_callVP (n := 239) (As := [.int (xs (s_58.1 + 1).toNatClampNeg), .int (xs (s_58.1 + 2).toNatClampNeg), .int (xs (s_58.1 + 3).toNatClampNeg)]) (rest := []) C (kgX9w_left l D cy (g := q_29) (a := a0_58) (ad := a1_58) (sh := s_58.2.1) (n := s_58.2.2.1) (L := s_58.2.2.2.1) (k := s_58.2.2.2.2.1) (G := s_58.2.2.2.2.2.1) (i1 := xs (s_58.1 + 1).toNatClampNeg) (i2 := xs (s_58.1 + 2).toNatClampNeg) (i3 := xs (s_58.1 + 3).toNatClampNeg) hx_97) mX9_left u_1315 u_1316 u_1317 0 rfl (MW_head _ _ _ _ _ _ _ _ _) rfl 3 [0] [1, 2] rfl (by decide +kernel) rfl rfl rfl rfl (Nat.le_of_ble_eq_true rfl) (Nat.le_of_ble_eq_true rfl) (Nat.le_of_ble_eq_true rfl) g_89.1 g_89.2 dL_law_236 rfl (fun v_98 u_99 hp_100 => ?_)
      obtain ⟨q_101, q_102, rfl, rfl⟩ := hp_100
      refine xr_perm C 3 [0, 1, 2] [] [MW q_29 q_101 q_102 cy x_97.2.1 x_97.2.2.1 x_97.2.2.2.1 x_97.2.2.2.2.1 x_97.2.2.2.2.2, CW q_1 z_28 cy x_88.2.1 x_88.2.2.1, [(q_53, .inr (9, [.long x_88.2.2.2, q_93]))]] rfl (by decide +kernel) rfl ?_
      refine xr_st (st' := [.int x_97.1]) rfl ?_
      refine xr_istore (n := 241) C [(6, .int x_97.1), (5, .int x_88.1), (0, .ref b), (1, .ref q_1), (2, .ref q_29), (3, .ref q_53), (4, .int s_58.1)] dL_law_239 (by decide) rfl rfl ?_
      refine xr_goto (tgt := 895) C dL_law_241 rfl ?_
      refine xr_iinc (j := 6) (v := s_58.1 + 4) (n := 898) C [(4, .int (s_58.1 + 4)), (6, .int x_97.1), (5, .int x_88.1), (0, .ref b), (1, .ref q_1), (2, .ref q_29), (3, .ref q_53)] dL_law_895 rfl rfl (by decide) rfl rfl ?_
      refine xr_goto (tgt := 27) C dL_law_898 rfl ?_
      refine xr_lv (lv' := [(0, .ref b), (1, .ref q_1), (2, .ref q_29), (3, .ref q_53), (4, .int (s_58.1 + 4))]) [3, 4, 5, 6, 0] rfl ?_
      exact hk_58 (s_58.1 + 4, x_97.2.1, x_97.2.2.1, x_97.2.2.2.1, x_97.2.2.2.2.1, x_97.2.2.2.2.2, x_88.2.1, x_88.2.2.1, x_88.2.2.2, s_58.2.2.2.2.2.2.2.2.2.1 + 1, s_58.2.2.2.2.2.2.2.2.2.2 + 6) (Option.some.inj ho_58).symm q_101 q_102 q_93
    replace ho_58 := yf_f c_84 ho_58
    by_cases c_103 : ((xs s_58.1.toNatClampNeg) &&& 31) = 2
    · replace ho_58 := yf_t c_103 ho_58
      refine xr_tableIn (off := 201) (tgt := 244) C dL_law_43 (by rw [c_103]; decide) (by rw [c_103]; decide) (by rw [c_103]; decide) rfl ?_
      refine xr_aload_n (n := 245) (j := 1) C dL_law_244 rfl rfl ?_
      refine xr_aload_n (n := 246) (j := 0) C dL_law_245 rfl rfl ?_
      refine xr_iload (n := 248) (j := 4) C dL_law_246 rfl rfl ?_
      refine xr_iconst (n := 249) (v := 1) C dL_law_248 rfl rfl ?_
      refine xr_iadd (n := 250) C dL_law_249 rfl ?_
      obtain ⟨g_104, ho_58⟩ := yf_g ho_58
      refine xr_sld (n := 251) C hX hbl hbA g_104 dL_law_250 rfl ?_
      refine xr_aload_n (n := 252) (j := 0) C dL_law_251 rfl rfl ?_
      refine xr_iload (n := 254) (j := 4) C dL_law_252 rfl rfl ?_
      refine xr_iconst (n := 255) (v := 2) C dL_law_254 rfl rfl ?_
      refine xr_iadd (n := 256) C dL_law_255 rfl ?_
      obtain ⟨g_105, ho_58⟩ := yf_g ho_58
      refine xr_sld (n := 257) C hX hbl hbA g_105 dL_law_256 rfl ?_
      refine xr_aload_n (n := 258) (j := 0) C dL_law_257 rfl rfl ?_
      refine xr_iload (n := 260) (j := 4) C dL_law_258 rfl rfl ?_
      refine xr_iconst (n := 261) (v := 3) C dL_law_260 rfl rfl ?_
      refine xr_iadd (n := 262) C dL_law_261 rfl ?_
      obtain ⟨g_106, ho_58⟩ := yf_g ho_58
      refine xr_sld (n := 263) C hX hbl hbA g_106 dL_law_262 rfl ?_
      refine xr_aload_n (n := 264) (j := 3) C dL_law_263 rfl rfl ?_
      obtain ⟨x_107, hx_107, ho_58⟩ := yf_b ho_58
      obtain ⟨g_108, ho_58⟩ := yf_g ho_58
      refine xr_callSW (n := 267) (As := [.ref q_1, .int (xs (s_58.1 + 1).toNatClampNeg), .int (xs (s_58.1 + 2).toNatClampNeg), .int (xs (s_58.1 + 3).toNatClampNeg), .ref q_53]) (rest := []) C (kgL_top l D cy hl0 (x := q_1) (a := z_28) (o := q_53) (os := a2_58) (n := s_58.2.2.2.2.2.2.1) (t := s_58.2.2.2.2.2.2.2.1) (on := s_58.2.2.2.2.2.2.2.2.1) (i1 := xs (s_58.1 + 1).toNatClampNeg) (i2 := xs (s_58.1 + 2).toNatClampNeg) (i3 := xs (s_58.1 + 3).toNatClampNeg) hx_107) mL_top u_683 u_684 3 [1, 2] [0] rfl (by decide +kernel) rfl rfl rfl rfl (Nat.le_of_ble_eq_true rfl) (Nat.le_of_ble_eq_true rfl) (Nat.le_of_ble_eq_true rfl) g_108.1 g_108.2 dL_law_264 rfl (fun v_109 u_110 hp_111 => ?_)
      obtain ⟨q_112, rfl, rfl⟩ := hp_111
      refine xr_perm C 3 [2, 0, 1] [] [MW q_29 a0_58 a1_58 cy s_58.2.1 s_58.2.2.1 s_58.2.2.2.1 s_58.2.2.2.2.1 s_58.2.2.2.2.2.1, CW q_1 z_28 cy x_107.2.1 x_107.2.2.1, [(q_53, .inr (9, [.long x_107.2.2.2, q_112]))]] rfl (by decide +kernel) rfl ?_
      refine xr_st (st' := [.int x_107.1]) rfl ?_
      refine xr_istore (n := 269) C [(5, .int x_107.1), (0, .ref b), (1, .ref q_1), (2, .ref q_29), (3, .ref q_53), (4, .int s_58.1)] dL_law_267 (by decide) rfl rfl ?_
      refine xr_aload_n (n := 270) (j := 3) C dL_law_269 rfl rfl ?_
      refine xr_aload_n (n := 271) (j := 1) C dL_law_270 rfl rfl ?_
      refine xr_iload (n := 273) (j := 5) C dL_law_271 rfl rfl ?_
      refine xr_iconst (n := 274) (v := 1) C dL_law_273 rfl rfl ?_
      refine xr_iadd (n := 275) C dL_law_274 rfl ?_
      obtain ⟨g_113, ho_58⟩ := yf_g ho_58
      refine xr_sld (n := 276) C hX hbl hbA g_113 dL_law_275 rfl ?_
      refine xr_aload_n (n := 277) (j := 1) C dL_law_276 rfl rfl ?_
      refine xr_iload (n := 279) (j := 5) C dL_law_277 rfl rfl ?_
      refine xr_iconst (n := 280) (v := 2) C dL_law_279 rfl rfl ?_
      refine xr_iadd (n := 281) C dL_law_280 rfl ?_
      obtain ⟨g_114, ho_58⟩ := yf_g ho_58
      refine xr_sld (n := 282) C hX hbl hbA g_114 dL_law_281 rfl ?_
      refine xr_aload_n (n := 283) (j := 1) C dL_law_282 rfl rfl ?_
      refine xr_iload (n := 285) (j := 5) C dL_law_283 rfl rfl ?_
      refine xr_iconst (n := 286) (v := 3) C dL_law_285 rfl rfl ?_
      refine xr_iadd (n := 287) C dL_law_286 rfl ?_
      obtain ⟨g_115, ho_58⟩ := yf_g ho_58
      refine xr_sld (n := 288) C hX hbl hbA g_115 dL_law_287 rfl ?_
      obtain ⟨x_116, hx_116, ho_58⟩ := yf_b ho_58
      refine xr_callVP (n := 291) (As := [.int (xs (s_58.1 + 1).toNatClampNeg), .int (xs (s_58.1 + 2).toNatClampNeg), .int (xs (s_58.1 + 3).toNatClampNeg)]) (rest := []) C (kgX9w_top l D cy (g := q_29) (a := a0_58) (ad := a1_58) (sh := s_58.2.1) (n := s_58.2.2.1) (L := s_58.2.2.2.1) (k := s_58.2.2.2.2.1) (G := s_58.2.2.2.2.2.1) (i1 := xs (s_58.1 + 1).toNatClampNeg) (i2 := xs (s_58.1 + 2).toNatClampNeg) (i3 := xs (s_58.1 + 3).toNatClampNeg) hx_116) mX9_top u_1319 u_1320 u_1321 0 rfl (MW_head _ _ _ _ _ _ _ _ _) rfl 3 [0] [1, 2] rfl (by decide +kernel) rfl rfl rfl rfl (Nat.le_of_ble_eq_true rfl) (Nat.le_of_ble_eq_true rfl) (Nat.le_of_ble_eq_true rfl) g_108.1 g_108.2 dL_law_288 rfl (fun v_117 u_118 hp_119 => ?_)
      obtain ⟨q_120, q_121, rfl, rfl⟩ := hp_119
      refine xr_perm C 3 [0, 1, 2] [] [MW q_29 q_120 q_121 cy x_116.2.1 x_116.2.2.1 x_116.2.2.2.1 x_116.2.2.2.2.1 x_116.2.2.2.2.2, CW q_1 z_28 cy x_107.2.1 x_107.2.2.1, [(q_53, .inr (9, [.long x_107.2.2.2, q_112]))]] rfl (by decide +kernel) rfl ?_
      refine xr_st (st' := [.int x_116.1]) rfl ?_
      refine xr_istore (n := 293) C [(6, .int x_116.1), (5, .int x_107.1), (0, .ref b), (1, .ref q_1), (2, .ref q_29), (3, .ref q_53), (4, .int s_58.1)] dL_law_291 (by decide) rfl rfl ?_
      refine xr_goto (tgt := 895) C dL_law_293 rfl ?_
      refine xr_iinc (j := 6) (v := s_58.1 + 4) (n := 898) C [(4, .int (s_58.1 + 4)), (6, .int x_116.1), (5, .int x_107.1), (0, .ref b), (1, .ref q_1), (2, .ref q_29), (3, .ref q_53)] dL_law_895 rfl rfl (by decide) rfl rfl ?_
      refine xr_goto (tgt := 27) C dL_law_898 rfl ?_
      refine xr_lv (lv' := [(0, .ref b), (1, .ref q_1), (2, .ref q_29), (3, .ref q_53), (4, .int (s_58.1 + 4))]) [3, 4, 5, 6, 0] rfl ?_
      exact hk_58 (s_58.1 + 4, x_116.2.1, x_116.2.2.1, x_116.2.2.2.1, x_116.2.2.2.2.1, x_116.2.2.2.2.2, x_107.2.1, x_107.2.2.1, x_107.2.2.2, s_58.2.2.2.2.2.2.2.2.2.1 + 1, s_58.2.2.2.2.2.2.2.2.2.2 + 6) (Option.some.inj ho_58).symm q_120 q_121 q_112
    replace ho_58 := yf_f c_103 ho_58
    by_cases c_122 : ((xs s_58.1.toNatClampNeg) &&& 31) = 3
    · replace ho_58 := yf_t c_122 ho_58
      refine xr_tableIn (off := 253) (tgt := 296) C dL_law_43 (by rw [c_122]; decide) (by rw [c_122]; decide) (by rw [c_122]; decide) rfl ?_
      refine xr_aload_n (n := 297) (j := 1) C dL_law_296 rfl rfl ?_
      refine xr_aload_n (n := 298) (j := 0) C dL_law_297 rfl rfl ?_
      refine xr_iload (n := 300) (j := 4) C dL_law_298 rfl rfl ?_
      refine xr_iconst (n := 301) (v := 1) C dL_law_300 rfl rfl ?_
      refine xr_iadd (n := 302) C dL_law_301 rfl ?_
      obtain ⟨g_123, ho_58⟩ := yf_g ho_58
      refine xr_sld (n := 303) C hX hbl hbA g_123 dL_law_302 rfl ?_
      refine xr_aload_n (n := 304) (j := 3) C dL_law_303 rfl rfl ?_
      obtain ⟨x_124, hx_124, ho_58⟩ := yf_b ho_58
      obtain ⟨g_125, ho_58⟩ := yf_g ho_58
      refine xr_callSW (n := 307) (As := [.ref q_1, .int (xs (s_58.1 + 1).toNatClampNeg), .ref q_53]) (rest := []) C (kgL_kind l D cy hl0 (x := q_1) (a := z_28) (o := q_53) (os := a2_58) (n := s_58.2.2.2.2.2.2.1) (t := s_58.2.2.2.2.2.2.2.1) (on := s_58.2.2.2.2.2.2.2.2.1) (i1 := xs (s_58.1 + 1).toNatClampNeg) hx_124) mL_kind u_691 u_692 3 [1, 2] [0] rfl (by decide +kernel) rfl rfl rfl rfl (Nat.le_of_ble_eq_true rfl) (Nat.le_of_ble_eq_true rfl) (Nat.le_of_ble_eq_true rfl) g_125.1 g_125.2 dL_law_304 rfl (fun v_126 u_127 hp_128 => ?_)
      obtain ⟨q_129, rfl, rfl⟩ := hp_128
      refine xr_perm C 3 [2, 0, 1] [] [MW q_29 a0_58 a1_58 cy s_58.2.1 s_58.2.2.1 s_58.2.2.2.1 s_58.2.2.2.2.1 s_58.2.2.2.2.2.1, CW q_1 z_28 cy x_124.2.1 x_124.2.2.1, [(q_53, .inr (9, [.long x_124.2.2.2, q_129]))]] rfl (by decide +kernel) rfl ?_
      refine xr_st (st' := [.int x_124.1]) rfl ?_
      refine xr_istore (n := 309) C [(5, .int x_124.1), (0, .ref b), (1, .ref q_1), (2, .ref q_29), (3, .ref q_53), (4, .int s_58.1)] dL_law_307 (by decide) rfl rfl ?_
      refine xr_aload_n (n := 310) (j := 3) C dL_law_309 rfl rfl ?_
      refine xr_aload_n (n := 311) (j := 1) C dL_law_310 rfl rfl ?_
      refine xr_iload (n := 313) (j := 5) C dL_law_311 rfl rfl ?_
      refine xr_iconst (n := 314) (v := 1) C dL_law_313 rfl rfl ?_
      refine xr_iadd (n := 315) C dL_law_314 rfl ?_
      obtain ⟨g_130, ho_58⟩ := yf_g ho_58
      refine xr_sld (n := 316) C hX hbl hbA g_130 dL_law_315 rfl ?_
      obtain ⟨x_131, hx_131, ho_58⟩ := yf_b ho_58
      refine xr_callVP (n := 319) (As := [.int (xs (s_58.1 + 1).toNatClampNeg)]) (rest := []) C (kgX9w_kind l D cy (g := q_29) (a := a0_58) (ad := a1_58) (sh := s_58.2.1) (n := s_58.2.2.1) (L := s_58.2.2.2.1) (k := s_58.2.2.2.2.1) (G := s_58.2.2.2.2.2.1) (i1 := xs (s_58.1 + 1).toNatClampNeg) hx_131) mX9_kind u_1323 u_1324 u_1325 0 rfl (MW_head _ _ _ _ _ _ _ _ _) rfl 3 [0] [1, 2] rfl (by decide +kernel) rfl rfl rfl rfl (Nat.le_of_ble_eq_true rfl) (Nat.le_of_ble_eq_true rfl) (Nat.le_of_ble_eq_true rfl) g_125.1 g_125.2 dL_law_316 rfl (fun v_132 u_133 hp_134 => ?_)
      obtain ⟨q_135, q_136, rfl, rfl⟩ := hp_134
      refine xr_perm C 3 [0, 1, 2] [] [MW q_29 q_135 q_136 cy x_131.2.1 x_131.2.2.1 x_131.2.2.2.1 x_131.2.2.2.2.1 x_131.2.2.2.2.2, CW q_1 z_28 cy x_124.2.1 x_124.2.2.1, [(q_53, .inr (9, [.long x_124.2.2.2, q_129]))]] rfl (by decide +kernel) rfl ?_
      refine xr_st (st' := [.int x_131.1]) rfl ?_
      refine xr_istore (n := 321) C [(6, .int x_131.1), (5, .int x_124.1), (0, .ref b), (1, .ref q_1), (2, .ref q_29), (3, .ref q_53), (4, .int s_58.1)] dL_law_319 (by decide) rfl rfl ?_
      refine xr_goto (tgt := 895) C dL_law_321 rfl ?_
      refine xr_iinc (j := 6) (v := s_58.1 + 4) (n := 898) C [(4, .int (s_58.1 + 4)), (6, .int x_131.1), (5, .int x_124.1), (0, .ref b), (1, .ref q_1), (2, .ref q_29), (3, .ref q_53)] dL_law_895 rfl rfl (by decide) rfl rfl ?_
      refine xr_goto (tgt := 27) C dL_law_898 rfl ?_
      refine xr_lv (lv' := [(0, .ref b), (1, .ref q_1), (2, .ref q_29), (3, .ref q_53), (4, .int (s_58.1 + 4))]) [3, 4, 5, 6, 0] rfl ?_
      exact hk_58 (s_58.1 + 4, x_131.2.1, x_131.2.2.1, x_131.2.2.2.1, x_131.2.2.2.2.1, x_131.2.2.2.2.2, x_124.2.1, x_124.2.2.1, x_124.2.2.2, s_58.2.2.2.2.2.2.2.2.2.1 + 1, s_58.2.2.2.2.2.2.2.2.2.2 + 6) (Option.some.inj ho_58).symm q_135 q_136 q_129
    replace ho_58 := yf_f c_122 ho_58
    by_cases c_137 : ((xs s_58.1.toNatClampNeg) &&& 31) = 4
    · replace ho_58 := yf_t c_137 ho_58
      refine xr_tableIn (off := 281) (tgt := 324) C dL_law_43 (by rw [c_137]; decide) (by rw [c_137]; decide) (by rw [c_137]; decide) rfl ?_
      refine xr_aload_n (n := 325) (j := 1) C dL_law_324 rfl rfl ?_
      refine xr_aload_n (n := 326) (j := 0) C dL_law_325 rfl rfl ?_
      refine xr_iload (n := 328) (j := 4) C dL_law_326 rfl rfl ?_
      refine xr_iconst (n := 329) (v := 1) C dL_law_328 rfl rfl ?_
      refine xr_iadd (n := 330) C dL_law_329 rfl ?_
      obtain ⟨g_138, ho_58⟩ := yf_g ho_58
      refine xr_sld (n := 331) C hX hbl hbA g_138 dL_law_330 rfl ?_
      obtain ⟨r_140, hE_140, ho_58⟩ := yf_b ho_58
      have J_140 : X p l e room_1 s m args below meth c D A H0 7 Q [MW q_29 a0_58 a1_58 cy s_58.2.1 s_58.2.2.1 s_58.2.2.2.1 s_58.2.2.2.2.1 s_58.2.2.2.2.2.1, CW q_1 z_28 cy s_58.2.2.2.2.2.2.1 s_58.2.2.2.2.2.2.2.1, [(q_53, .inr (9, [.long s_58.2.2.2.2.2.2.2.2.1, a2_58]))]] s_58.2.2.2.2.2.2.2.2.2.1 s_58.2.2.2.2.2.2.2.2.2.2 [(0, .ref b), (1, .ref q_1), (2, .ref q_29), (3, .ref q_53), (4, .int s_58.1)] 339 [.int r_140, .ref q_1] := by
        refine xr_aload_n (n := 340) (j := 3) C dL_law_339 rfl rfl ?_
        obtain ⟨x_141, hx_141, ho_58⟩ := yf_b ho_58
        obtain ⟨g_142, ho_58⟩ := yf_g ho_58
        refine xr_callSW (n := 343) (As := [.ref q_1, .int r_140, .ref q_53]) (rest := []) C (kgL_checked l D cy hl0 (x := q_1) (a := z_28) (o := q_53) (os := a2_58) (n := s_58.2.2.2.2.2.2.1) (t := s_58.2.2.2.2.2.2.2.1) (on := s_58.2.2.2.2.2.2.2.2.1) (i1 := r_140) hx_141) mL_checked u_699 u_700 3 [1, 2] [0] rfl (by decide +kernel) rfl rfl rfl rfl (Nat.le_of_ble_eq_true rfl) (Nat.le_of_ble_eq_true rfl) (Nat.le_of_ble_eq_true rfl) g_142.1 g_142.2 dL_law_340 rfl (fun v_143 u_144 hp_145 => ?_)
        obtain ⟨q_146, rfl, rfl⟩ := hp_145
        refine xr_perm C 3 [2, 0, 1] [] [MW q_29 a0_58 a1_58 cy s_58.2.1 s_58.2.2.1 s_58.2.2.2.1 s_58.2.2.2.2.1 s_58.2.2.2.2.2.1, CW q_1 z_28 cy x_141.2.1 x_141.2.2.1, [(q_53, .inr (9, [.long x_141.2.2.2, q_146]))]] rfl (by decide +kernel) rfl ?_
        refine xr_st (st' := [.int x_141.1]) rfl ?_
        refine xr_istore (n := 345) C [(5, .int x_141.1), (0, .ref b), (1, .ref q_1), (2, .ref q_29), (3, .ref q_53), (4, .int s_58.1)] dL_law_343 (by decide) rfl rfl ?_
        refine xr_aload_n (n := 346) (j := 3) C dL_law_345 rfl rfl ?_
        refine xr_aload_n (n := 347) (j := 1) C dL_law_346 rfl rfl ?_
        refine xr_iload (n := 349) (j := 5) C dL_law_347 rfl rfl ?_
        refine xr_iconst (n := 350) (v := 1) C dL_law_349 rfl rfl ?_
        refine xr_iadd (n := 351) C dL_law_350 rfl ?_
        obtain ⟨g_147, ho_58⟩ := yf_g ho_58
        refine xr_sld (n := 352) C hX hbl hbA g_147 dL_law_351 rfl ?_
        obtain ⟨r_149, hE_149, ho_58⟩ := yf_b ho_58
        have J_149 : X p l e room_1 s m args below meth c D A H0 7 Q [MW q_29 a0_58 a1_58 cy s_58.2.1 s_58.2.2.1 s_58.2.2.2.1 s_58.2.2.2.2.1 s_58.2.2.2.2.2.1, CW q_1 z_28 cy x_141.2.1 x_141.2.2.1, [(q_53, .inr (9, [.long x_141.2.2.2, q_146]))]] (s_58.2.2.2.2.2.2.2.2.2.1 + 1) (s_58.2.2.2.2.2.2.2.2.2.2 + 6) [(0, .ref b), (1, .ref q_1), (2, .ref q_29), (3, .ref q_53), (4, .int s_58.1), (5, .int x_141.1)] 360 [.int r_149, .ref q_29] := by
          obtain ⟨x_150, hx_150, ho_58⟩ := yf_b ho_58
          refine xr_callVP (n := 363) (As := [.int r_149]) (rest := []) C (kgX9w_checked l D cy (g := q_29) (a := a0_58) (ad := a1_58) (sh := s_58.2.1) (n := s_58.2.2.1) (L := s_58.2.2.2.1) (k := s_58.2.2.2.2.1) (G := s_58.2.2.2.2.2.1) (i1 := r_149) hx_150) mX9_checked u_1327 u_1328 u_1329 0 rfl (MW_head _ _ _ _ _ _ _ _ _) rfl 3 [0] [1, 2] rfl (by decide +kernel) rfl rfl rfl rfl (Nat.le_of_ble_eq_true rfl) (Nat.le_of_ble_eq_true rfl) (Nat.le_of_ble_eq_true rfl) g_142.1 g_142.2 dL_law_360 rfl (fun v_151 u_152 hp_153 => ?_)
          obtain ⟨q_154, q_155, rfl, rfl⟩ := hp_153
          refine xr_perm C 3 [0, 1, 2] [] [MW q_29 q_154 q_155 cy x_150.2.1 x_150.2.2.1 x_150.2.2.2.1 x_150.2.2.2.2.1 x_150.2.2.2.2.2, CW q_1 z_28 cy x_141.2.1 x_141.2.2.1, [(q_53, .inr (9, [.long x_141.2.2.2, q_146]))]] rfl (by decide +kernel) rfl ?_
          refine xr_st (st' := [.int x_150.1]) rfl ?_
          refine xr_istore (n := 365) C [(6, .int x_150.1), (0, .ref b), (1, .ref q_1), (2, .ref q_29), (3, .ref q_53), (4, .int s_58.1), (5, .int x_141.1)] dL_law_363 (by decide) rfl rfl ?_
          refine xr_aload_n (n := 366) (j := 3) C dL_law_365 rfl rfl ?_
          obtain ⟨x_156, hx_156, ho_58⟩ := yf_b ho_58
          refine xr_callVP (n := 369) (As := []) (rest := []) C (kgX9w_thrown l D cy (g := q_29) (a := q_154) (ad := q_155) (sh := x_150.2.1) (n := x_150.2.2.1) (L := x_150.2.2.2.1) (k := x_150.2.2.2.2.1) (G := x_150.2.2.2.2.2) hx_156) mX9_thrown u_1290 u_1291 u_1292 0 rfl (MW_head _ _ _ _ _ _ _ _ _) rfl 3 [0] [1, 2] rfl (by decide +kernel) rfl rfl rfl rfl (Nat.le_of_ble_eq_true rfl) (Nat.le_of_ble_eq_true rfl) (Nat.le_of_ble_eq_true rfl) g_142.1 g_142.2 dL_law_366 rfl (fun v_157 u_158 hp_159 => ?_)
          obtain ⟨q_160, q_161, rfl, rfl⟩ := hp_159
          refine xr_perm C 3 [0, 1, 2] [] [MW q_29 q_160 q_161 cy x_156.2.1 x_156.2.2.1 x_156.2.2.2.1 x_156.2.2.2.2.1 x_156.2.2.2.2.2, CW q_1 z_28 cy x_141.2.1 x_141.2.2.1, [(q_53, .inr (9, [.long x_141.2.2.2, q_146]))]] rfl (by decide +kernel) rfl ?_
          refine xr_st (st' := [.int x_156.1]) rfl ?_
          refine xr_iload (n := 371) (j := 6) C dL_law_369 rfl rfl ?_
          refine xr_icmp_eq (tgt := 376) (n := 374) C dL_law_371 rfl rfl (fun c_162 => ?_) (fun c_162 => ?_)
          · replace ho_58 := yf_t c_162 ho_58
            refine xr_iload (n := 378) (j := 6) C dL_law_376 rfl rfl ?_
            refine xr_if_ne (tgt := 401) (n := 381) C dL_law_378 rfl rfl (fun c_163 => ?_) (fun c_163 => ?_)
            · replace ho_58 := yf_f c_163 ho_58
              refine xr_goto (tgt := 895) C dL_law_401 rfl ?_
              refine xr_iinc (j := 5) (v := s_58.1 + 4) (n := 898) C [(4, .int (s_58.1 + 4)), (6, .int x_150.1), (0, .ref b), (1, .ref q_1), (2, .ref q_29), (3, .ref q_53), (5, .int x_141.1)] dL_law_895 rfl rfl (by decide) rfl rfl ?_
              refine xr_goto (tgt := 27) C dL_law_898 rfl ?_
              refine xr_lv (lv' := [(0, .ref b), (1, .ref q_1), (2, .ref q_29), (3, .ref q_53), (4, .int (s_58.1 + 4))]) [2, 3, 4, 5, 0] rfl ?_
              exact hk_58 (s_58.1 + 4, x_156.2.1, x_156.2.2.1, x_156.2.2.2.1, x_156.2.2.2.2.1, x_156.2.2.2.2.2, x_141.2.1, x_141.2.2.1, x_141.2.2.2, s_58.2.2.2.2.2.2.2.2.2.1 + 1, s_58.2.2.2.2.2.2.2.2.2.2 + 6) (Option.some.inj ho_58).symm q_160 q_161 q_146
            · replace ho_58 := yf_t c_163 ho_58
              refine xr_aload_n (n := 382) (j := 4) C dL_law_381 rfl rfl ?_
              refine xr_getN (n := 385) C 2 rfl rfl 0 (by decide) in_X7 RL (List.mem_of_getElem? (i := 46) rfl) rfl (v := .long x_141.2.2.2) rfl dL_law_382 rfl ?_
              refine xr_iload (n := 387) (j := 0) C dL_law_385 rfl rfl ?_
              obtain ⟨r_165, hE_165, ho_58⟩ := yf_b ho_58
              have J_165 : X p l e room_1 s m args below meth c D A H0 7 Q [MW q_29 q_160 q_161 cy x_156.2.1 x_156.2.2.1 x_156.2.2.2.1 x_156.2.2.2.2.1 x_156.2.2.2.2.2, CW q_1 z_28 cy x_141.2.1 x_141.2.2.1, [(q_53, .inr (9, [.long x_141.2.2.2, q_146]))]] (s_58.2.2.2.2.2.2.2.2.2.1 + 1) (s_58.2.2.2.2.2.2.2.2.2.2 + 6) [(0, .ref b), (1, .ref q_1), (2, .ref q_29), (3, .ref q_53), (4, .int s_58.1)] 395 [.long r_165, .long x_141.2.2.2] := by
                refine xr_lcmp (n := 396) C dL_law_395 rfl ?_
                refine xr_if_eq (tgt := 401) (n := 399) C dL_law_396 rfl rfl (fun c_166 => ?_) (fun c_166 => ?_)
                · replace ho_58 := yf_t c_166 ho_58
                  refine xr_goto (tgt := 895) C dL_law_401 rfl ?_
                  refine xr_iinc (j := 4) (v := s_58.1 + 4) (n := 898) C [(4, .int (s_58.1 + 4)), (0, .ref b), (1, .ref q_1), (2, .ref q_29), (3, .ref q_53)] dL_law_895 rfl rfl (by decide) rfl rfl ?_
                  refine xr_goto (tgt := 27) C dL_law_898 rfl ?_
                  refine xr_lv (lv' := [(0, .ref b), (1, .ref q_1), (2, .ref q_29), (3, .ref q_53), (4, .int (s_58.1 + 4))]) [1, 2, 3, 4, 0] rfl ?_
                  exact hk_58 (s_58.1 + 4, x_156.2.1, x_156.2.2.1, x_156.2.2.2.1, x_156.2.2.2.2.1, x_156.2.2.2.2.2, x_141.2.1, x_141.2.2.1, x_141.2.2.2, s_58.2.2.2.2.2.2.2.2.2.1 + 1, s_58.2.2.2.2.2.2.2.2.2.2 + 6) (Option.some.inj ho_58).symm q_160 q_161 q_146
                · replace ho_58 := yf_f c_166 ho_58
                  refine xr_iconst (n := 400) (v := 0) C dL_law_399 rfl rfl ?_
                  have e_167 := hx_58 _ (Option.some.inj ho_58).symm
                  subst e_167
                  replace hR := ybr_r hR
                  obtain rfl := Option.some.inj hR
                  exact ret 0 rfl g_142.1 g_142.2 dL_law_400
              refine xr_if_eq (tgt := 394) (n := 390) C dL_law_387 rfl rfl (fun c_168 => ?_) (fun c_168 => ?_)
              · replace hE_165 := yf_t c_168 hE_165
                refine xr_lconst (n := 395) (v := 0) C dL_law_394 rfl rfl ?_
                refine xr_lv (lv' := [(0, .ref b), (1, .ref q_1), (2, .ref q_29), (3, .ref q_53), (4, .int s_58.1)]) [1, 2, 3, 4, 5] rfl ?_
                have e_169 := Option.some.inj hE_165
                subst e_169
                exact J_165
              · replace hE_165 := yf_f c_168 hE_165
                refine xr_lconst (n := 391) (v := 1) C dL_law_390 rfl rfl ?_
                refine xr_goto (tgt := 395) C dL_law_391 rfl ?_
                refine xr_lv (lv' := [(0, .ref b), (1, .ref q_1), (2, .ref q_29), (3, .ref q_53), (4, .int s_58.1)]) [1, 2, 3, 4, 5] rfl ?_
                have e_170 := Option.some.inj hE_165
                subst e_170
                exact J_165
          · replace ho_58 := yf_f c_162 ho_58
            refine xr_iconst (n := 375) (v := 0) C dL_law_374 rfl rfl ?_
            have e_171 := hx_58 _ (Option.some.inj ho_58).symm
            subst e_171
            replace hR := ybr_r hR
            obtain rfl := Option.some.inj hR
            exact ret 0 rfl g_142.1 g_142.2 dL_law_375
        refine xr_if_eq (tgt := 359) (n := 355) C dL_law_352 rfl rfl (fun c_172 => ?_) (fun c_172 => ?_)
        · replace hE_149 := yf_t c_172 hE_149
          refine xr_iconst (n := 360) (v := 0) C dL_law_359 rfl rfl ?_
          refine xr_lv (lv' := [(0, .ref b), (1, .ref q_1), (2, .ref q_29), (3, .ref q_53), (4, .int s_58.1), (5, .int x_141.1)]) [1, 2, 3, 4, 5, 0] rfl ?_
          have e_173 := Option.some.inj hE_149
          subst e_173
          exact J_149
        · replace hE_149 := yf_f c_172 hE_149
          refine xr_iconst (n := 356) (v := 1) C dL_law_355 rfl rfl ?_
          refine xr_goto (tgt := 360) C dL_law_356 rfl ?_
          refine xr_lv (lv' := [(0, .ref b), (1, .ref q_1), (2, .ref q_29), (3, .ref q_53), (4, .int s_58.1), (5, .int x_141.1)]) [1, 2, 3, 4, 5, 0] rfl ?_
          have e_174 := Option.some.inj hE_149
          subst e_174
          exact J_149
      refine xr_if_eq (tgt := 338) (n := 334) C dL_law_331 rfl rfl (fun c_175 => ?_) (fun c_175 => ?_)
      · replace hE_140 := yf_t c_175 hE_140
        refine xr_iconst (n := 339) (v := 0) C dL_law_338 rfl rfl ?_
        have e_176 := Option.some.inj hE_140
        subst e_176
        exact J_140
      · replace hE_140 := yf_f c_175 hE_140
        refine xr_iconst (n := 335) (v := 1) C dL_law_334 rfl rfl ?_
        refine xr_goto (tgt := 339) C dL_law_335 rfl ?_
        have e_177 := Option.some.inj hE_140
        subst e_177
        exact J_140
    replace ho_58 := yf_f c_137 ho_58
    by_cases c_178 : ((xs s_58.1.toNatClampNeg) &&& 31) = 5
    · replace ho_58 := yf_t c_178 ho_58
      refine xr_tableIn (off := 361) (tgt := 404) C dL_law_43 (by rw [c_178]; decide) (by rw [c_178]; decide) (by rw [c_178]; decide) rfl ?_
      refine xr_aload_n (n := 405) (j := 1) C dL_law_404 rfl rfl ?_
      refine xr_aload_n (n := 406) (j := 0) C dL_law_405 rfl rfl ?_
      refine xr_iload (n := 408) (j := 4) C dL_law_406 rfl rfl ?_
      refine xr_iconst (n := 409) (v := 1) C dL_law_408 rfl rfl ?_
      refine xr_iadd (n := 410) C dL_law_409 rfl ?_
      obtain ⟨g_179, ho_58⟩ := yf_g ho_58
      refine xr_sld (n := 411) C hX hbl hbA g_179 dL_law_410 rfl ?_
      refine xr_aload_n (n := 412) (j := 0) C dL_law_411 rfl rfl ?_
      refine xr_iload (n := 414) (j := 4) C dL_law_412 rfl rfl ?_
      refine xr_iconst (n := 415) (v := 2) C dL_law_414 rfl rfl ?_
      refine xr_iadd (n := 416) C dL_law_415 rfl ?_
      obtain ⟨g_180, ho_58⟩ := yf_g ho_58
      refine xr_sld (n := 417) C hX hbl hbA g_180 dL_law_416 rfl ?_
      refine xr_aload_n (n := 418) (j := 0) C dL_law_417 rfl rfl ?_
      refine xr_iload (n := 420) (j := 4) C dL_law_418 rfl rfl ?_
      refine xr_iconst (n := 421) (v := 3) C dL_law_420 rfl rfl ?_
      refine xr_iadd (n := 422) C dL_law_421 rfl ?_
      obtain ⟨g_181, ho_58⟩ := yf_g ho_58
      refine xr_sld (n := 423) C hX hbl hbA g_181 dL_law_422 rfl ?_
      obtain ⟨r_183, hE_183, ho_58⟩ := yf_b ho_58
      have J_183 : X p l e room_1 s m args below meth c D A H0 7 Q [MW q_29 a0_58 a1_58 cy s_58.2.1 s_58.2.2.1 s_58.2.2.2.1 s_58.2.2.2.2.1 s_58.2.2.2.2.2.1, CW q_1 z_28 cy s_58.2.2.2.2.2.2.1 s_58.2.2.2.2.2.2.2.1, [(q_53, .inr (9, [.long s_58.2.2.2.2.2.2.2.2.1, a2_58]))]] s_58.2.2.2.2.2.2.2.2.2.1 s_58.2.2.2.2.2.2.2.2.2.2 [(0, .ref b), (1, .ref q_1), (2, .ref q_29), (3, .ref q_53), (4, .int s_58.1)] 431 [.int r_183, .int (xs (s_58.1 + 2).toNatClampNeg), .int (xs (s_58.1 + 1).toNatClampNeg), .ref q_1] := by
        refine xr_aload_n (n := 432) (j := 3) C dL_law_431 rfl rfl ?_
        obtain ⟨x_184, hx_184, ho_58⟩ := yf_b ho_58
        obtain ⟨g_185, ho_58⟩ := yf_g ho_58
        refine xr_callSW (n := 435) (As := [.ref q_1, .int (xs (s_58.1 + 1).toNatClampNeg), .int (xs (s_58.1 + 2).toNatClampNeg), .int r_183, .ref q_53]) (rest := []) C (kgL_broken l D cy hl0 (x := q_1) (a := z_28) (o := q_53) (os := a2_58) (n := s_58.2.2.2.2.2.2.1) (t := s_58.2.2.2.2.2.2.2.1) (on := s_58.2.2.2.2.2.2.2.2.1) (i1 := xs (s_58.1 + 1).toNatClampNeg) (i2 := xs (s_58.1 + 2).toNatClampNeg) (isb := r_183) hx_184) mL_broken u_723 u_724 3 [1, 2] [0] rfl (by decide +kernel) rfl rfl rfl rfl (Nat.le_of_ble_eq_true rfl) (Nat.le_of_ble_eq_true rfl) (Nat.le_of_ble_eq_true rfl) g_185.1 g_185.2 dL_law_432 rfl (fun v_186 u_187 hp_188 => ?_)
        obtain ⟨q_189, rfl, rfl⟩ := hp_188
        refine xr_perm C 3 [2, 0, 1] [] [MW q_29 a0_58 a1_58 cy s_58.2.1 s_58.2.2.1 s_58.2.2.2.1 s_58.2.2.2.2.1 s_58.2.2.2.2.2.1, CW q_1 z_28 cy x_184.2.1 x_184.2.2.1, [(q_53, .inr (9, [.long x_184.2.2.2, q_189]))]] rfl (by decide +kernel) rfl ?_
        refine xr_st (st' := [.int x_184.1]) rfl ?_
        refine xr_istore (n := 437) C [(5, .int x_184.1), (0, .ref b), (1, .ref q_1), (2, .ref q_29), (3, .ref q_53), (4, .int s_58.1)] dL_law_435 (by decide) rfl rfl ?_
        refine xr_aload_n (n := 438) (j := 3) C dL_law_437 rfl rfl ?_
        refine xr_aload_n (n := 439) (j := 1) C dL_law_438 rfl rfl ?_
        refine xr_iload (n := 441) (j := 5) C dL_law_439 rfl rfl ?_
        refine xr_iconst (n := 442) (v := 1) C dL_law_441 rfl rfl ?_
        refine xr_iadd (n := 443) C dL_law_442 rfl ?_
        obtain ⟨g_190, ho_58⟩ := yf_g ho_58
        refine xr_sld (n := 444) C hX hbl hbA g_190 dL_law_443 rfl ?_
        refine xr_aload_n (n := 445) (j := 1) C dL_law_444 rfl rfl ?_
        refine xr_iload (n := 447) (j := 5) C dL_law_445 rfl rfl ?_
        refine xr_iconst (n := 448) (v := 2) C dL_law_447 rfl rfl ?_
        refine xr_iadd (n := 449) C dL_law_448 rfl ?_
        obtain ⟨g_191, ho_58⟩ := yf_g ho_58
        refine xr_sld (n := 450) C hX hbl hbA g_191 dL_law_449 rfl ?_
        refine xr_aload_n (n := 451) (j := 1) C dL_law_450 rfl rfl ?_
        refine xr_iload (n := 453) (j := 5) C dL_law_451 rfl rfl ?_
        refine xr_iconst (n := 454) (v := 3) C dL_law_453 rfl rfl ?_
        refine xr_iadd (n := 455) C dL_law_454 rfl ?_
        obtain ⟨g_192, ho_58⟩ := yf_g ho_58
        refine xr_sld (n := 456) C hX hbl hbA g_192 dL_law_455 rfl ?_
        obtain ⟨r_194, hE_194, ho_58⟩ := yf_b ho_58
        have J_194 : X p l e room_1 s m args below meth c D A H0 7 Q [MW q_29 a0_58 a1_58 cy s_58.2.1 s_58.2.2.1 s_58.2.2.2.1 s_58.2.2.2.2.1 s_58.2.2.2.2.2.1, CW q_1 z_28 cy x_184.2.1 x_184.2.2.1, [(q_53, .inr (9, [.long x_184.2.2.2, q_189]))]] (s_58.2.2.2.2.2.2.2.2.2.1 + 1) (s_58.2.2.2.2.2.2.2.2.2.2 + 6) [(0, .ref b), (1, .ref q_1), (2, .ref q_29), (3, .ref q_53), (4, .int s_58.1)] 464 [.int r_194, .int (xs (s_58.1 + 2).toNatClampNeg), .int (xs (s_58.1 + 1).toNatClampNeg), .ref q_29] := by
          obtain ⟨x_195, hx_195, ho_58⟩ := yf_b ho_58
          refine xr_callVP (n := 467) (As := [.int (xs (s_58.1 + 1).toNatClampNeg), .int (xs (s_58.1 + 2).toNatClampNeg), .int r_194]) (rest := []) C (kgX9w_broken l D cy (g := q_29) (a := a0_58) (ad := a1_58) (sh := s_58.2.1) (n := s_58.2.2.1) (L := s_58.2.2.2.1) (k := s_58.2.2.2.2.1) (G := s_58.2.2.2.2.2.1) (i1 := xs (s_58.1 + 1).toNatClampNeg) (i2 := xs (s_58.1 + 2).toNatClampNeg) (isb := r_194) hx_195) mX9_broken u_1331 u_1332 u_1333 0 rfl (MW_head _ _ _ _ _ _ _ _ _) rfl 3 [0] [1, 2] rfl (by decide +kernel) rfl rfl rfl rfl (Nat.le_of_ble_eq_true rfl) (Nat.le_of_ble_eq_true rfl) (Nat.le_of_ble_eq_true rfl) g_185.1 g_185.2 dL_law_464 rfl (fun v_196 u_197 hp_198 => ?_)
          obtain ⟨q_199, q_200, rfl, rfl⟩ := hp_198
          refine xr_perm C 3 [0, 1, 2] [] [MW q_29 q_199 q_200 cy x_195.2.1 x_195.2.2.1 x_195.2.2.2.1 x_195.2.2.2.2.1 x_195.2.2.2.2.2, CW q_1 z_28 cy x_184.2.1 x_184.2.2.1, [(q_53, .inr (9, [.long x_184.2.2.2, q_189]))]] rfl (by decide +kernel) rfl ?_
          refine xr_st (st' := [.int x_195.1]) rfl ?_
          refine xr_istore (n := 469) C [(6, .int x_195.1), (0, .ref b), (1, .ref q_1), (2, .ref q_29), (3, .ref q_53), (4, .int s_58.1)] dL_law_467 (by decide) rfl rfl ?_
          refine xr_goto (tgt := 895) C dL_law_469 rfl ?_
          refine xr_iinc (j := 5) (v := s_58.1 + 4) (n := 898) C [(4, .int (s_58.1 + 4)), (6, .int x_195.1), (0, .ref b), (1, .ref q_1), (2, .ref q_29), (3, .ref q_53)] dL_law_895 rfl rfl (by decide) rfl rfl ?_
          refine xr_goto (tgt := 27) C dL_law_898 rfl ?_
          refine xr_lv (lv' := [(0, .ref b), (1, .ref q_1), (2, .ref q_29), (3, .ref q_53), (4, .int (s_58.1 + 4))]) [2, 3, 4, 5, 0] rfl ?_
          exact hk_58 (s_58.1 + 4, x_195.2.1, x_195.2.2.1, x_195.2.2.2.1, x_195.2.2.2.2.1, x_195.2.2.2.2.2, x_184.2.1, x_184.2.2.1, x_184.2.2.2, s_58.2.2.2.2.2.2.2.2.2.1 + 1, s_58.2.2.2.2.2.2.2.2.2.2 + 6) (Option.some.inj ho_58).symm q_199 q_200 q_189
        refine xr_if_eq (tgt := 463) (n := 459) C dL_law_456 rfl rfl (fun c_201 => ?_) (fun c_201 => ?_)
        · replace hE_194 := yf_t c_201 hE_194
          refine xr_iconst (n := 464) (v := 0) C dL_law_463 rfl rfl ?_
          refine xr_lv (lv' := [(0, .ref b), (1, .ref q_1), (2, .ref q_29), (3, .ref q_53), (4, .int s_58.1)]) [1, 2, 3, 4, 5] rfl ?_
          have e_202 := Option.some.inj hE_194
          subst e_202
          exact J_194
        · replace hE_194 := yf_f c_201 hE_194
          refine xr_iconst (n := 460) (v := 1) C dL_law_459 rfl rfl ?_
          refine xr_goto (tgt := 464) C dL_law_460 rfl ?_
          refine xr_lv (lv' := [(0, .ref b), (1, .ref q_1), (2, .ref q_29), (3, .ref q_53), (4, .int s_58.1)]) [1, 2, 3, 4, 5] rfl ?_
          have e_203 := Option.some.inj hE_194
          subst e_203
          exact J_194
      refine xr_if_eq (tgt := 430) (n := 426) C dL_law_423 rfl rfl (fun c_204 => ?_) (fun c_204 => ?_)
      · replace hE_183 := yf_t c_204 hE_183
        refine xr_iconst (n := 431) (v := 0) C dL_law_430 rfl rfl ?_
        have e_205 := Option.some.inj hE_183
        subst e_205
        exact J_183
      · replace hE_183 := yf_f c_204 hE_183
        refine xr_iconst (n := 427) (v := 1) C dL_law_426 rfl rfl ?_
        refine xr_goto (tgt := 431) C dL_law_427 rfl ?_
        have e_206 := Option.some.inj hE_183
        subst e_206
        exact J_183
    replace ho_58 := yf_f c_178 ho_58
    by_cases c_207 : ((xs s_58.1.toNatClampNeg) &&& 31) = 6
    · replace ho_58 := yf_t c_207 ho_58
      refine xr_tableIn (off := 429) (tgt := 472) C dL_law_43 (by rw [c_207]; decide) (by rw [c_207]; decide) (by rw [c_207]; decide) rfl ?_
      refine xr_aload_n (n := 473) (j := 1) C dL_law_472 rfl rfl ?_
      refine xr_aload_n (n := 474) (j := 3) C dL_law_473 rfl rfl ?_
      obtain ⟨x_208, hx_208, ho_58⟩ := yf_b ho_58
      obtain ⟨g_209, ho_58⟩ := yf_g ho_58
      refine xr_callSW (n := 477) (As := [.ref q_1, .ref q_53]) (rest := []) C (kgL_test l D cy hl0 (x := q_1) (a := z_28) (o := q_53) (os := a2_58) (n := s_58.2.2.2.2.2.2.1) (t := s_58.2.2.2.2.2.2.2.1) (on := s_58.2.2.2.2.2.2.2.2.1) hx_208) mL_test u_738 u_739 3 [1, 2] [0] rfl (by decide +kernel) rfl rfl rfl rfl (Nat.le_of_ble_eq_true rfl) (Nat.le_of_ble_eq_true rfl) (Nat.le_of_ble_eq_true rfl) g_209.1 g_209.2 dL_law_474 rfl (fun v_210 u_211 hp_212 => ?_)
      obtain ⟨q_213, rfl, rfl⟩ := hp_212
      refine xr_perm C 3 [2, 0, 1] [] [MW q_29 a0_58 a1_58 cy s_58.2.1 s_58.2.2.1 s_58.2.2.2.1 s_58.2.2.2.2.1 s_58.2.2.2.2.2.1, CW q_1 z_28 cy x_208.2.1 x_208.2.2.1, [(q_53, .inr (9, [.long x_208.2.2.2, q_213]))]] rfl (by decide +kernel) rfl ?_
      refine xr_st (st' := [.int x_208.1]) rfl ?_
      refine xr_istore (n := 479) C [(5, .int x_208.1), (0, .ref b), (1, .ref q_1), (2, .ref q_29), (3, .ref q_53), (4, .int s_58.1)] dL_law_477 (by decide) rfl rfl ?_
      refine xr_aload_n (n := 480) (j := 3) C dL_law_479 rfl rfl ?_
      obtain ⟨x_214, hx_214, ho_58⟩ := yf_b ho_58
      obtain ⟨g_215, ho_58⟩ := yf_g ho_58
      refine xr_callVP (n := 483) (As := []) (rest := []) C (kgX9w_test l D cy (g := q_29) (a := a0_58) (ad := a1_58) (sh := s_58.2.1) (n := s_58.2.2.1) (L := s_58.2.2.2.1) (k := s_58.2.2.2.2.1) (G := s_58.2.2.2.2.2.1) hx_214) mX9_test u_1342 u_1343 u_1344 0 rfl (MW_head _ _ _ _ _ _ _ _ _) rfl 3 [0] [1, 2] rfl (by decide +kernel) rfl rfl rfl rfl (Nat.le_of_ble_eq_true rfl) (Nat.le_of_ble_eq_true rfl) (Nat.le_of_ble_eq_true rfl) g_215.1 g_215.2 dL_law_480 rfl (fun v_216 u_217 hp_218 => ?_)
      obtain ⟨q_219, q_220, rfl, rfl⟩ := hp_218
      refine xr_perm C 3 [0, 1, 2] [] [MW q_29 q_219 q_220 cy x_214.2.1 x_214.2.2.1 x_214.2.2.2.1 x_214.2.2.2.2.1 x_214.2.2.2.2.2, CW q_1 z_28 cy x_208.2.1 x_208.2.2.1, [(q_53, .inr (9, [.long x_208.2.2.2, q_213]))]] rfl (by decide +kernel) rfl ?_
      refine xr_st (st' := [.int x_214.1]) rfl ?_
      refine xr_istore (n := 485) C [(6, .int x_214.1), (5, .int x_208.1), (0, .ref b), (1, .ref q_1), (2, .ref q_29), (3, .ref q_53), (4, .int s_58.1)] dL_law_483 (by decide) rfl rfl ?_
      refine xr_goto (tgt := 895) C dL_law_485 rfl ?_
      refine xr_iinc (j := 6) (v := s_58.1 + 4) (n := 898) C [(4, .int (s_58.1 + 4)), (6, .int x_214.1), (5, .int x_208.1), (0, .ref b), (1, .ref q_1), (2, .ref q_29), (3, .ref q_53)] dL_law_895 rfl rfl (by decide) rfl rfl ?_
      refine xr_goto (tgt := 27) C dL_law_898 rfl ?_
      refine xr_lv (lv' := [(0, .ref b), (1, .ref q_1), (2, .ref q_29), (3, .ref q_53), (4, .int (s_58.1 + 4))]) [3, 4, 5, 6, 0] rfl ?_
      exact hk_58 (s_58.1 + 4, x_214.2.1, x_214.2.2.1, x_214.2.2.2.1, x_214.2.2.2.2.1, x_214.2.2.2.2.2, x_208.2.1, x_208.2.2.1, x_208.2.2.2, s_58.2.2.2.2.2.2.2.2.2.1 + 1 + 10, s_58.2.2.2.2.2.2.2.2.2.2 + 6 + 50) (Option.some.inj ho_58).symm q_219 q_220 q_213
    replace ho_58 := yf_f c_207 ho_58
    by_cases c_221 : ((xs s_58.1.toNatClampNeg) &&& 31) = 7
    · replace ho_58 := yf_t c_221 ho_58
      refine xr_tableIn (off := 445) (tgt := 488) C dL_law_43 (by rw [c_221]; decide) (by rw [c_221]; decide) (by rw [c_221]; decide) rfl ?_
      refine xr_aload_n (n := 489) (j := 1) C dL_law_488 rfl rfl ?_
      refine xr_aload_n (n := 490) (j := 3) C dL_law_489 rfl rfl ?_
      obtain ⟨x_222, hx_222, ho_58⟩ := yf_b ho_58
      obtain ⟨g_223, ho_58⟩ := yf_g ho_58
      refine xr_callSW (n := 493) (As := [.ref q_1, .ref q_53]) (rest := []) C (kgL_start l D cy hl0 (x := q_1) (a := z_28) (o := q_53) (os := a2_58) (n := s_58.2.2.2.2.2.2.1) (t := s_58.2.2.2.2.2.2.2.1) (on := s_58.2.2.2.2.2.2.2.2.1) hx_222) mL_start u_751 u_752 3 [1, 2] [0] rfl (by decide +kernel) rfl rfl rfl rfl (Nat.le_of_ble_eq_true rfl) (Nat.le_of_ble_eq_true rfl) (Nat.le_of_ble_eq_true rfl) g_223.1 g_223.2 dL_law_490 rfl (fun v_224 u_225 hp_226 => ?_)
      obtain ⟨q_227, rfl, rfl⟩ := hp_226
      refine xr_perm C 3 [2, 0, 1] [] [MW q_29 a0_58 a1_58 cy s_58.2.1 s_58.2.2.1 s_58.2.2.2.1 s_58.2.2.2.2.1 s_58.2.2.2.2.2.1, CW q_1 z_28 cy x_222.2.1 x_222.2.2.1, [(q_53, .inr (9, [.long x_222.2.2.2, q_227]))]] rfl (by decide +kernel) rfl ?_
      refine xr_st (st' := [.int x_222.1]) rfl ?_
      refine xr_istore (n := 495) C [(5, .int x_222.1), (0, .ref b), (1, .ref q_1), (2, .ref q_29), (3, .ref q_53), (4, .int s_58.1)] dL_law_493 (by decide) rfl rfl ?_
      refine xr_aload_n (n := 496) (j := 3) C dL_law_495 rfl rfl ?_
      obtain ⟨x_228, hx_228, ho_58⟩ := yf_b ho_58
      obtain ⟨g_229, ho_58⟩ := yf_g ho_58
      refine xr_callVP (n := 499) (As := []) (rest := []) C (kgX9w_begin l D cy (g := q_29) (a := a0_58) (ad := a1_58) (sh := s_58.2.1) (n := s_58.2.2.1) (L := s_58.2.2.2.1) (k := s_58.2.2.2.2.1) (G := s_58.2.2.2.2.2.1) hx_228) mX9_start_ u_1351 u_1352 u_1353 0 rfl (MW_head _ _ _ _ _ _ _ _ _) rfl 3 [0] [1, 2] rfl (by decide +kernel) rfl rfl rfl rfl (Nat.le_of_ble_eq_true rfl) (Nat.le_of_ble_eq_true rfl) (Nat.le_of_ble_eq_true rfl) g_229.1 g_229.2 dL_law_496 rfl (fun v_230 u_231 hp_232 => ?_)
      obtain ⟨q_233, q_234, rfl, rfl⟩ := hp_232
      refine xr_perm C 3 [0, 1, 2] [] [MW q_29 q_233 q_234 cy x_228.2.1 x_228.2.2.1 x_228.2.2.2.1 x_228.2.2.2.2.1 x_228.2.2.2.2.2, CW q_1 z_28 cy x_222.2.1 x_222.2.2.1, [(q_53, .inr (9, [.long x_222.2.2.2, q_227]))]] rfl (by decide +kernel) rfl ?_
      refine xr_st (st' := [.int x_228.1]) rfl ?_
      refine xr_istore (n := 501) C [(6, .int x_228.1), (5, .int x_222.1), (0, .ref b), (1, .ref q_1), (2, .ref q_29), (3, .ref q_53), (4, .int s_58.1)] dL_law_499 (by decide) rfl rfl ?_
      refine xr_goto (tgt := 895) C dL_law_501 rfl ?_
      refine xr_iinc (j := 6) (v := s_58.1 + 4) (n := 898) C [(4, .int (s_58.1 + 4)), (6, .int x_228.1), (5, .int x_222.1), (0, .ref b), (1, .ref q_1), (2, .ref q_29), (3, .ref q_53)] dL_law_895 rfl rfl (by decide) rfl rfl ?_
      refine xr_goto (tgt := 27) C dL_law_898 rfl ?_
      refine xr_lv (lv' := [(0, .ref b), (1, .ref q_1), (2, .ref q_29), (3, .ref q_53), (4, .int (s_58.1 + 4))]) [3, 4, 5, 6, 0] rfl ?_
      exact hk_58 (s_58.1 + 4, x_228.2.1, x_228.2.2.1, x_228.2.2.2.1, x_228.2.2.2.2.1, x_228.2.2.2.2.2, x_222.2.1, x_222.2.2.1, x_222.2.2.2, s_58.2.2.2.2.2.2.2.2.2.1 + 1 + 100, s_58.2.2.2.2.2.2.2.2.2.2 + 6 + 500) (Option.some.inj ho_58).symm q_233 q_234 q_227
    replace ho_58 := yf_f c_221 ho_58
    by_cases c_235 : ((xs s_58.1.toNatClampNeg) &&& 31) = 8
    · replace ho_58 := yf_t c_235 ho_58
      refine xr_tableIn (off := 461) (tgt := 504) C dL_law_43 (by rw [c_235]; decide) (by rw [c_235]; decide) (by rw [c_235]; decide) rfl ?_
      refine xr_aload_n (n := 505) (j := 1) C dL_law_504 rfl rfl ?_
      refine xr_aload_n (n := 506) (j := 0) C dL_law_505 rfl rfl ?_
      refine xr_iload (n := 508) (j := 4) C dL_law_506 rfl rfl ?_
      refine xr_iconst (n := 509) (v := 1) C dL_law_508 rfl rfl ?_
      refine xr_iadd (n := 510) C dL_law_509 rfl ?_
      obtain ⟨g_236, ho_58⟩ := yf_g ho_58
      refine xr_sld (n := 511) C hX hbl hbA g_236 dL_law_510 rfl ?_
      refine xr_aload_n (n := 512) (j := 3) C dL_law_511 rfl rfl ?_
      obtain ⟨x_237, hx_237, ho_58⟩ := yf_b ho_58
      obtain ⟨g_238, ho_58⟩ := yf_g ho_58
      refine xr_callSW (n := 515) (As := [.ref q_1, .int (xs (s_58.1 + 1).toNatClampNeg), .ref q_53]) (rest := []) C (kgL_beat l D cy hl0 (x := q_1) (a := z_28) (o := q_53) (os := a2_58) (n := s_58.2.2.2.2.2.2.1) (t := s_58.2.2.2.2.2.2.2.1) (on := s_58.2.2.2.2.2.2.2.2.1) (i1 := xs (s_58.1 + 1).toNatClampNeg) hx_237) mL_beat u_787 u_788 3 [1, 2] [0] rfl (by decide +kernel) rfl rfl rfl rfl (Nat.le_of_ble_eq_true rfl) (Nat.le_of_ble_eq_true rfl) (Nat.le_of_ble_eq_true rfl) g_238.1 g_238.2 dL_law_512 rfl (fun v_239 u_240 hp_241 => ?_)
      obtain ⟨q_242, rfl, rfl⟩ := hp_241
      refine xr_perm C 3 [2, 0, 1] [] [MW q_29 a0_58 a1_58 cy s_58.2.1 s_58.2.2.1 s_58.2.2.2.1 s_58.2.2.2.2.1 s_58.2.2.2.2.2.1, CW q_1 z_28 cy x_237.2.1 x_237.2.2.1, [(q_53, .inr (9, [.long x_237.2.2.2, q_242]))]] rfl (by decide +kernel) rfl ?_
      refine xr_st (st' := [.int x_237.1]) rfl ?_
      refine xr_istore (n := 517) C [(5, .int x_237.1), (0, .ref b), (1, .ref q_1), (2, .ref q_29), (3, .ref q_53), (4, .int s_58.1)] dL_law_515 (by decide) rfl rfl ?_
      refine xr_aload_n (n := 518) (j := 3) C dL_law_517 rfl rfl ?_
      refine xr_aload_n (n := 519) (j := 1) C dL_law_518 rfl rfl ?_
      refine xr_iload (n := 521) (j := 5) C dL_law_519 rfl rfl ?_
      refine xr_iconst (n := 522) (v := 1) C dL_law_521 rfl rfl ?_
      refine xr_iadd (n := 523) C dL_law_522 rfl ?_
      obtain ⟨g_243, ho_58⟩ := yf_g ho_58
      refine xr_sld (n := 524) C hX hbl hbA g_243 dL_law_523 rfl ?_
      obtain ⟨x_244, hx_244, ho_58⟩ := yf_b ho_58
      obtain ⟨g_245, ho_58⟩ := yf_g ho_58
      refine xr_callVP (n := 527) (As := [.int (xs (s_58.1 + 1).toNatClampNeg)]) (rest := []) C (kgX9w_beat l D cy (g := q_29) (a := a0_58) (ad := a1_58) (sh := s_58.2.1) (n := s_58.2.2.1) (L := s_58.2.2.2.1) (k := s_58.2.2.2.2.1) (G := s_58.2.2.2.2.2.1) (i1 := xs (s_58.1 + 1).toNatClampNeg) hx_244) mX9_beat u_1434 u_1435 u_1436 0 rfl (MW_head _ _ _ _ _ _ _ _ _) rfl 3 [0] [1, 2] rfl (by decide +kernel) rfl rfl rfl rfl (Nat.le_of_ble_eq_true rfl) (Nat.le_of_ble_eq_true rfl) (Nat.le_of_ble_eq_true rfl) g_245.1 g_245.2 dL_law_524 rfl (fun v_246 u_247 hp_248 => ?_)
      obtain ⟨q_249, q_250, rfl, rfl⟩ := hp_248
      refine xr_perm C 3 [0, 1, 2] [] [MW q_29 q_249 q_250 cy x_244.2.1 x_244.2.2.1 x_244.2.2.2.1 x_244.2.2.2.2.1 x_244.2.2.2.2.2, CW q_1 z_28 cy x_237.2.1 x_237.2.2.1, [(q_53, .inr (9, [.long x_237.2.2.2, q_242]))]] rfl (by decide +kernel) rfl ?_
      refine xr_st (st' := [.int x_244.1]) rfl ?_
      refine xr_istore (n := 529) C [(6, .int x_244.1), (5, .int x_237.1), (0, .ref b), (1, .ref q_1), (2, .ref q_29), (3, .ref q_53), (4, .int s_58.1)] dL_law_527 (by decide) rfl rfl ?_
      refine xr_goto (tgt := 895) C dL_law_529 rfl ?_
      refine xr_iinc (j := 6) (v := s_58.1 + 4) (n := 898) C [(4, .int (s_58.1 + 4)), (6, .int x_244.1), (5, .int x_237.1), (0, .ref b), (1, .ref q_1), (2, .ref q_29), (3, .ref q_53)] dL_law_895 rfl rfl (by decide) rfl rfl ?_
      refine xr_goto (tgt := 27) C dL_law_898 rfl ?_
      refine xr_lv (lv' := [(0, .ref b), (1, .ref q_1), (2, .ref q_29), (3, .ref q_53), (4, .int (s_58.1 + 4))]) [3, 4, 5, 6, 0] rfl ?_
      exact hk_58 (s_58.1 + 4, x_244.2.1, x_244.2.2.1, x_244.2.2.2.1, x_244.2.2.2.2.1, x_244.2.2.2.2.2, x_237.2.1, x_237.2.2.1, x_237.2.2.2, s_58.2.2.2.2.2.2.2.2.2.1 + 1 + 200, s_58.2.2.2.2.2.2.2.2.2.2 + 6 + 1800) (Option.some.inj ho_58).symm q_249 q_250 q_242
    replace ho_58 := yf_f c_235 ho_58
    by_cases c_251 : ((xs s_58.1.toNatClampNeg) &&& 31) = 9
    · replace ho_58 := yf_t c_251 ho_58
      refine xr_tableIn (off := 489) (tgt := 532) C dL_law_43 (by rw [c_251]; decide) (by rw [c_251]; decide) (by rw [c_251]; decide) rfl ?_
      refine xr_aload_n (n := 533) (j := 1) C dL_law_532 rfl rfl ?_
      refine xr_aload_n (n := 534) (j := 0) C dL_law_533 rfl rfl ?_
      refine xr_iload (n := 536) (j := 4) C dL_law_534 rfl rfl ?_
      refine xr_iconst (n := 537) (v := 1) C dL_law_536 rfl rfl ?_
      refine xr_iadd (n := 538) C dL_law_537 rfl ?_
      obtain ⟨g_252, ho_58⟩ := yf_g ho_58
      refine xr_sld (n := 539) C hX hbl hbA g_252 dL_law_538 rfl ?_
      refine xr_aload_n (n := 540) (j := 0) C dL_law_539 rfl rfl ?_
      refine xr_iload (n := 542) (j := 4) C dL_law_540 rfl rfl ?_
      refine xr_iconst (n := 543) (v := 2) C dL_law_542 rfl rfl ?_
      refine xr_iadd (n := 544) C dL_law_543 rfl ?_
      obtain ⟨g_253, ho_58⟩ := yf_g ho_58
      refine xr_sld (n := 545) C hX hbl hbA g_253 dL_law_544 rfl ?_
      refine xr_aload_n (n := 546) (j := 0) C dL_law_545 rfl rfl ?_
      refine xr_iload (n := 548) (j := 4) C dL_law_546 rfl rfl ?_
      refine xr_iconst (n := 549) (v := 3) C dL_law_548 rfl rfl ?_
      refine xr_iadd (n := 550) C dL_law_549 rfl ?_
      obtain ⟨g_254, ho_58⟩ := yf_g ho_58
      refine xr_sld (n := 551) C hX hbl hbA g_254 dL_law_550 rfl ?_
      refine xr_aload_n (n := 552) (j := 3) C dL_law_551 rfl rfl ?_
      obtain ⟨x_255, hx_255, ho_58⟩ := yf_b ho_58
      obtain ⟨g_256, ho_58⟩ := yf_g ho_58
      refine xr_callSW (n := 555) (As := [.ref q_1, .int (xs (s_58.1 + 1).toNatClampNeg), .int (xs (s_58.1 + 2).toNatClampNeg), .int (xs (s_58.1 + 3).toNatClampNeg), .ref q_53]) (rest := []) C (kgL_bend l D cy hl0 (x := q_1) (a := z_28) (o := q_53) (os := a2_58) (n := s_58.2.2.2.2.2.2.1) (t := s_58.2.2.2.2.2.2.2.1) (on := s_58.2.2.2.2.2.2.2.2.1) (i1 := xs (s_58.1 + 1).toNatClampNeg) (i2 := xs (s_58.1 + 2).toNatClampNeg) (i3 := xs (s_58.1 + 3).toNatClampNeg) hx_255) mL_bend u_829 u_830 3 [1, 2] [0] rfl (by decide +kernel) rfl rfl rfl rfl (Nat.le_of_ble_eq_true rfl) (Nat.le_of_ble_eq_true rfl) (Nat.le_of_ble_eq_true rfl) g_256.1 g_256.2 dL_law_552 rfl (fun v_257 u_258 hp_259 => ?_)
      obtain ⟨q_260, rfl, rfl⟩ := hp_259
      refine xr_perm C 3 [2, 0, 1] [] [MW q_29 a0_58 a1_58 cy s_58.2.1 s_58.2.2.1 s_58.2.2.2.1 s_58.2.2.2.2.1 s_58.2.2.2.2.2.1, CW q_1 z_28 cy x_255.2.1 x_255.2.2.1, [(q_53, .inr (9, [.long x_255.2.2.2, q_260]))]] rfl (by decide +kernel) rfl ?_
      refine xr_st (st' := [.int x_255.1]) rfl ?_
      refine xr_istore (n := 557) C [(5, .int x_255.1), (0, .ref b), (1, .ref q_1), (2, .ref q_29), (3, .ref q_53), (4, .int s_58.1)] dL_law_555 (by decide) rfl rfl ?_
      refine xr_aload_n (n := 558) (j := 3) C dL_law_557 rfl rfl ?_
      refine xr_aload_n (n := 559) (j := 1) C dL_law_558 rfl rfl ?_
      refine xr_iload (n := 561) (j := 5) C dL_law_559 rfl rfl ?_
      refine xr_iconst (n := 562) (v := 1) C dL_law_561 rfl rfl ?_
      refine xr_iadd (n := 563) C dL_law_562 rfl ?_
      obtain ⟨g_261, ho_58⟩ := yf_g ho_58
      refine xr_sld (n := 564) C hX hbl hbA g_261 dL_law_563 rfl ?_
      refine xr_aload_n (n := 565) (j := 1) C dL_law_564 rfl rfl ?_
      refine xr_iload (n := 567) (j := 5) C dL_law_565 rfl rfl ?_
      refine xr_iconst (n := 568) (v := 2) C dL_law_567 rfl rfl ?_
      refine xr_iadd (n := 569) C dL_law_568 rfl ?_
      obtain ⟨g_262, ho_58⟩ := yf_g ho_58
      refine xr_sld (n := 570) C hX hbl hbA g_262 dL_law_569 rfl ?_
      refine xr_aload_n (n := 571) (j := 1) C dL_law_570 rfl rfl ?_
      refine xr_iload (n := 573) (j := 5) C dL_law_571 rfl rfl ?_
      refine xr_iconst (n := 574) (v := 3) C dL_law_573 rfl rfl ?_
      refine xr_iadd (n := 575) C dL_law_574 rfl ?_
      obtain ⟨g_263, ho_58⟩ := yf_g ho_58
      refine xr_sld (n := 576) C hX hbl hbA g_263 dL_law_575 rfl ?_
      obtain ⟨x_264, hx_264, ho_58⟩ := yf_b ho_58
      refine xr_callVP (n := 579) (As := [.int (xs (s_58.1 + 1).toNatClampNeg), .int (xs (s_58.1 + 2).toNatClampNeg), .int (xs (s_58.1 + 3).toNatClampNeg)]) (rest := []) C (kgX9w_bend l D cy (g := q_29) (a := a0_58) (ad := a1_58) (sh := s_58.2.1) (n := s_58.2.2.1) (L := s_58.2.2.2.1) (k := s_58.2.2.2.2.1) (G := s_58.2.2.2.2.2.1) (i1 := xs (s_58.1 + 1).toNatClampNeg) (i2 := xs (s_58.1 + 2).toNatClampNeg) (i3 := xs (s_58.1 + 3).toNatClampNeg) hx_264) mX9_bend u_1484 u_1485 u_1486 0 rfl (MW_head _ _ _ _ _ _ _ _ _) rfl 3 [0] [1, 2] rfl (by decide +kernel) rfl rfl rfl rfl (Nat.le_of_ble_eq_true rfl) (Nat.le_of_ble_eq_true rfl) (Nat.le_of_ble_eq_true rfl) g_256.1 g_256.2 dL_law_576 rfl (fun v_265 u_266 hp_267 => ?_)
      obtain ⟨q_268, q_269, rfl, rfl⟩ := hp_267
      refine xr_perm C 3 [0, 1, 2] [] [MW q_29 q_268 q_269 cy x_264.2.1 x_264.2.2.1 x_264.2.2.2.1 x_264.2.2.2.2.1 x_264.2.2.2.2.2, CW q_1 z_28 cy x_255.2.1 x_255.2.2.1, [(q_53, .inr (9, [.long x_255.2.2.2, q_260]))]] rfl (by decide +kernel) rfl ?_
      refine xr_st (st' := [.int x_264.1]) rfl ?_
      refine xr_istore (n := 581) C [(6, .int x_264.1), (5, .int x_255.1), (0, .ref b), (1, .ref q_1), (2, .ref q_29), (3, .ref q_53), (4, .int s_58.1)] dL_law_579 (by decide) rfl rfl ?_
      refine xr_goto (tgt := 895) C dL_law_581 rfl ?_
      refine xr_iinc (j := 6) (v := s_58.1 + 4) (n := 898) C [(4, .int (s_58.1 + 4)), (6, .int x_264.1), (5, .int x_255.1), (0, .ref b), (1, .ref q_1), (2, .ref q_29), (3, .ref q_53)] dL_law_895 rfl rfl (by decide) rfl rfl ?_
      refine xr_goto (tgt := 27) C dL_law_898 rfl ?_
      refine xr_lv (lv' := [(0, .ref b), (1, .ref q_1), (2, .ref q_29), (3, .ref q_53), (4, .int (s_58.1 + 4))]) [3, 4, 5, 6, 0] rfl ?_
      exact hk_58 (s_58.1 + 4, x_264.2.1, x_264.2.2.1, x_264.2.2.2.1, x_264.2.2.2.2.1, x_264.2.2.2.2.2, x_255.2.1, x_255.2.2.1, x_255.2.2.2, s_58.2.2.2.2.2.2.2.2.2.1 + 1, s_58.2.2.2.2.2.2.2.2.2.2 + 6) (Option.some.inj ho_58).symm q_268 q_269 q_260
    replace ho_58 := yf_f c_251 ho_58
    by_cases c_270 : ((xs s_58.1.toNatClampNeg) &&& 31) = 10
    · replace ho_58 := yf_t c_270 ho_58
      refine xr_tableIn (off := 541) (tgt := 584) C dL_law_43 (by rw [c_270]; decide) (by rw [c_270]; decide) (by rw [c_270]; decide) rfl ?_
      refine xr_aload_n (n := 585) (j := 1) C dL_law_584 rfl rfl ?_
      refine xr_aload_n (n := 586) (j := 3) C dL_law_585 rfl rfl ?_
      obtain ⟨x_271, hx_271, ho_58⟩ := yf_b ho_58
      obtain ⟨g_272, ho_58⟩ := yf_g ho_58
      refine xr_callSW (n := 589) (As := [.ref q_1, .ref q_53]) (rest := []) C (kgL_check l D cy hl0 (x := q_1) (a := z_28) (o := q_53) (os := a2_58) (n := s_58.2.2.2.2.2.2.1) (t := s_58.2.2.2.2.2.2.2.1) (on := s_58.2.2.2.2.2.2.2.2.1) hx_271) mL_check u_842 u_843 3 [1, 2] [0] rfl (by decide +kernel) rfl rfl rfl rfl (Nat.le_of_ble_eq_true rfl) (Nat.le_of_ble_eq_true rfl) (Nat.le_of_ble_eq_true rfl) g_272.1 g_272.2 dL_law_586 rfl (fun v_273 u_274 hp_275 => ?_)
      obtain ⟨q_276, rfl, rfl⟩ := hp_275
      refine xr_perm C 3 [2, 0, 1] [] [MW q_29 a0_58 a1_58 cy s_58.2.1 s_58.2.2.1 s_58.2.2.2.1 s_58.2.2.2.2.1 s_58.2.2.2.2.2.1, CW q_1 z_28 cy x_271.2.1 x_271.2.2.1, [(q_53, .inr (9, [.long x_271.2.2.2, q_276]))]] rfl (by decide +kernel) rfl ?_
      refine xr_st (st' := [.int x_271.1]) rfl ?_
      refine xr_istore (n := 591) C [(5, .int x_271.1), (0, .ref b), (1, .ref q_1), (2, .ref q_29), (3, .ref q_53), (4, .int s_58.1)] dL_law_589 (by decide) rfl rfl ?_
      refine xr_aload_n (n := 592) (j := 3) C dL_law_591 rfl rfl ?_
      obtain ⟨x_277, hx_277, ho_58⟩ := yf_b ho_58
      refine xr_callVP (n := 595) (As := []) (rest := []) C (kgX9w_check l D cy (g := q_29) (a := a0_58) (ad := a1_58) (sh := s_58.2.1) (n := s_58.2.2.1) (L := s_58.2.2.2.1) (k := s_58.2.2.2.2.1) (G := s_58.2.2.2.2.2.1) hx_277) mX9_check u_1492 u_1493 u_1494 0 rfl (MW_head _ _ _ _ _ _ _ _ _) rfl 3 [0] [1, 2] rfl (by decide +kernel) rfl rfl rfl rfl (Nat.le_of_ble_eq_true rfl) (Nat.le_of_ble_eq_true rfl) (Nat.le_of_ble_eq_true rfl) g_272.1 g_272.2 dL_law_592 rfl (fun v_278 u_279 hp_280 => ?_)
      obtain ⟨q_281, q_282, rfl, rfl⟩ := hp_280
      refine xr_perm C 3 [0, 1, 2] [] [MW q_29 q_281 q_282 cy x_277.2.1 x_277.2.2.1 x_277.2.2.2.1 x_277.2.2.2.2.1 x_277.2.2.2.2.2, CW q_1 z_28 cy x_271.2.1 x_271.2.2.1, [(q_53, .inr (9, [.long x_271.2.2.2, q_276]))]] rfl (by decide +kernel) rfl ?_
      refine xr_st (st' := [.int x_277.1]) rfl ?_
      refine xr_istore (n := 597) C [(6, .int x_277.1), (5, .int x_271.1), (0, .ref b), (1, .ref q_1), (2, .ref q_29), (3, .ref q_53), (4, .int s_58.1)] dL_law_595 (by decide) rfl rfl ?_
      refine xr_goto (tgt := 895) C dL_law_597 rfl ?_
      refine xr_iinc (j := 6) (v := s_58.1 + 4) (n := 898) C [(4, .int (s_58.1 + 4)), (6, .int x_277.1), (5, .int x_271.1), (0, .ref b), (1, .ref q_1), (2, .ref q_29), (3, .ref q_53)] dL_law_895 rfl rfl (by decide) rfl rfl ?_
      refine xr_goto (tgt := 27) C dL_law_898 rfl ?_
      refine xr_lv (lv' := [(0, .ref b), (1, .ref q_1), (2, .ref q_29), (3, .ref q_53), (4, .int (s_58.1 + 4))]) [3, 4, 5, 6, 0] rfl ?_
      exact hk_58 (s_58.1 + 4, x_277.2.1, x_277.2.2.1, x_277.2.2.2.1, x_277.2.2.2.2.1, x_277.2.2.2.2.2, x_271.2.1, x_271.2.2.1, x_271.2.2.2, s_58.2.2.2.2.2.2.2.2.2.1 + 1, s_58.2.2.2.2.2.2.2.2.2.2 + 6) (Option.some.inj ho_58).symm q_281 q_282 q_276
    replace ho_58 := yf_f c_270 ho_58
    by_cases c_283 : ((xs s_58.1.toNatClampNeg) &&& 31) = 11
    · replace ho_58 := yf_t c_283 ho_58
      refine xr_tableIn (off := 557) (tgt := 600) C dL_law_43 (by rw [c_283]; decide) (by rw [c_283]; decide) (by rw [c_283]; decide) rfl ?_
      refine xr_aload_n (n := 601) (j := 1) C dL_law_600 rfl rfl ?_
      refine xr_aload_n (n := 602) (j := 0) C dL_law_601 rfl rfl ?_
      refine xr_iload (n := 604) (j := 4) C dL_law_602 rfl rfl ?_
      refine xr_iconst (n := 605) (v := 1) C dL_law_604 rfl rfl ?_
      refine xr_iadd (n := 606) C dL_law_605 rfl ?_
      obtain ⟨g_284, ho_58⟩ := yf_g ho_58
      refine xr_sld (n := 607) C hX hbl hbA g_284 dL_law_606 rfl ?_
      refine xr_aload_n (n := 608) (j := 3) C dL_law_607 rfl rfl ?_
      obtain ⟨x_285, hx_285, ho_58⟩ := yf_b ho_58
      obtain ⟨g_286, ho_58⟩ := yf_g ho_58
      refine xr_callSW (n := 611) (As := [.ref q_1, .int (xs (s_58.1 + 1).toNatClampNeg), .ref q_53]) (rest := []) C (kgL_mesh l D cy hl0 (x := q_1) (a := z_28) (o := q_53) (os := a2_58) (n := s_58.2.2.2.2.2.2.1) (t := s_58.2.2.2.2.2.2.2.1) (on := s_58.2.2.2.2.2.2.2.2.1) (i1 := xs (s_58.1 + 1).toNatClampNeg) hx_285) mL_mesh u_868 u_869 3 [1, 2] [0] rfl (by decide +kernel) rfl rfl rfl rfl (Nat.le_of_ble_eq_true rfl) (Nat.le_of_ble_eq_true rfl) (Nat.le_of_ble_eq_true rfl) g_286.1 g_286.2 dL_law_608 rfl (fun v_287 u_288 hp_289 => ?_)
      obtain ⟨q_290, rfl, rfl⟩ := hp_289
      refine xr_perm C 3 [2, 0, 1] [] [MW q_29 a0_58 a1_58 cy s_58.2.1 s_58.2.2.1 s_58.2.2.2.1 s_58.2.2.2.2.1 s_58.2.2.2.2.2.1, CW q_1 z_28 cy x_285.2.1 x_285.2.2.1, [(q_53, .inr (9, [.long x_285.2.2.2, q_290]))]] rfl (by decide +kernel) rfl ?_
      refine xr_st (st' := [.int x_285.1]) rfl ?_
      refine xr_istore (n := 613) C [(5, .int x_285.1), (0, .ref b), (1, .ref q_1), (2, .ref q_29), (3, .ref q_53), (4, .int s_58.1)] dL_law_611 (by decide) rfl rfl ?_
      refine xr_aload_n (n := 614) (j := 3) C dL_law_613 rfl rfl ?_
      refine xr_aload_n (n := 615) (j := 1) C dL_law_614 rfl rfl ?_
      refine xr_iload (n := 617) (j := 5) C dL_law_615 rfl rfl ?_
      refine xr_iconst (n := 618) (v := 1) C dL_law_617 rfl rfl ?_
      refine xr_iadd (n := 619) C dL_law_618 rfl ?_
      obtain ⟨g_291, ho_58⟩ := yf_g ho_58
      refine xr_sld (n := 620) C hX hbl hbA g_291 dL_law_619 rfl ?_
      obtain ⟨x_292, hx_292, ho_58⟩ := yf_b ho_58
      refine xr_callVP (n := 623) (As := [.int (xs (s_58.1 + 1).toNatClampNeg)]) (rest := []) C (kgX9w_mesh l D cy (g := q_29) (a := a0_58) (ad := a1_58) (sh := s_58.2.1) (n := s_58.2.2.1) (L := s_58.2.2.2.1) (k := s_58.2.2.2.2.1) (G := s_58.2.2.2.2.2.1) (i1 := xs (s_58.1 + 1).toNatClampNeg) hx_292) mX9_mesh u_1508 u_1509 u_1510 0 rfl (MW_head _ _ _ _ _ _ _ _ _) rfl 3 [0] [1, 2] rfl (by decide +kernel) rfl rfl rfl rfl (Nat.le_of_ble_eq_true rfl) (Nat.le_of_ble_eq_true rfl) (Nat.le_of_ble_eq_true rfl) g_286.1 g_286.2 dL_law_620 rfl (fun v_293 u_294 hp_295 => ?_)
      obtain ⟨q_296, q_297, rfl, rfl⟩ := hp_295
      refine xr_perm C 3 [0, 1, 2] [] [MW q_29 q_296 q_297 cy x_292.2.1 x_292.2.2.1 x_292.2.2.2.1 x_292.2.2.2.2.1 x_292.2.2.2.2.2, CW q_1 z_28 cy x_285.2.1 x_285.2.2.1, [(q_53, .inr (9, [.long x_285.2.2.2, q_290]))]] rfl (by decide +kernel) rfl ?_
      refine xr_st (st' := [.int x_292.1]) rfl ?_
      refine xr_istore (n := 625) C [(6, .int x_292.1), (5, .int x_285.1), (0, .ref b), (1, .ref q_1), (2, .ref q_29), (3, .ref q_53), (4, .int s_58.1)] dL_law_623 (by decide) rfl rfl ?_
      refine xr_goto (tgt := 895) C dL_law_625 rfl ?_
      refine xr_iinc (j := 6) (v := s_58.1 + 4) (n := 898) C [(4, .int (s_58.1 + 4)), (6, .int x_292.1), (5, .int x_285.1), (0, .ref b), (1, .ref q_1), (2, .ref q_29), (3, .ref q_53)] dL_law_895 rfl rfl (by decide) rfl rfl ?_
      refine xr_goto (tgt := 27) C dL_law_898 rfl ?_
      refine xr_lv (lv' := [(0, .ref b), (1, .ref q_1), (2, .ref q_29), (3, .ref q_53), (4, .int (s_58.1 + 4))]) [3, 4, 5, 6, 0] rfl ?_
      exact hk_58 (s_58.1 + 4, x_292.2.1, x_292.2.2.1, x_292.2.2.2.1, x_292.2.2.2.2.1, x_292.2.2.2.2.2, x_285.2.1, x_285.2.2.1, x_285.2.2.2, s_58.2.2.2.2.2.2.2.2.2.1 + 1, s_58.2.2.2.2.2.2.2.2.2.2 + 6) (Option.some.inj ho_58).symm q_296 q_297 q_290
    replace ho_58 := yf_f c_283 ho_58
    by_cases c_298 : ((xs s_58.1.toNatClampNeg) &&& 31) = 12
    · replace ho_58 := yf_t c_298 ho_58
      refine xr_tableIn (off := 585) (tgt := 628) C dL_law_43 (by rw [c_298]; decide) (by rw [c_298]; decide) (by rw [c_298]; decide) rfl ?_
      refine xr_aload_n (n := 629) (j := 1) C dL_law_628 rfl rfl ?_
      refine xr_aload_n (n := 630) (j := 0) C dL_law_629 rfl rfl ?_
      refine xr_iload (n := 632) (j := 4) C dL_law_630 rfl rfl ?_
      refine xr_iconst (n := 633) (v := 1) C dL_law_632 rfl rfl ?_
      refine xr_iadd (n := 634) C dL_law_633 rfl ?_
      obtain ⟨g_299, ho_58⟩ := yf_g ho_58
      refine xr_sld (n := 635) C hX hbl hbA g_299 dL_law_634 rfl ?_
      refine xr_aload_n (n := 636) (j := 0) C dL_law_635 rfl rfl ?_
      refine xr_iload (n := 638) (j := 4) C dL_law_636 rfl rfl ?_
      refine xr_iconst (n := 639) (v := 2) C dL_law_638 rfl rfl ?_
      refine xr_iadd (n := 640) C dL_law_639 rfl ?_
      obtain ⟨g_300, ho_58⟩ := yf_g ho_58
      refine xr_sld (n := 641) C hX hbl hbA g_300 dL_law_640 rfl ?_
      refine xr_aload_n (n := 642) (j := 0) C dL_law_641 rfl rfl ?_
      refine xr_iload (n := 644) (j := 4) C dL_law_642 rfl rfl ?_
      refine xr_iconst (n := 645) (v := 3) C dL_law_644 rfl rfl ?_
      refine xr_iadd (n := 646) C dL_law_645 rfl ?_
      obtain ⟨g_301, ho_58⟩ := yf_g ho_58
      refine xr_sld (n := 647) C hX hbl hbA g_301 dL_law_646 rfl ?_
      refine xr_aload_n (n := 648) (j := 3) C dL_law_647 rfl rfl ?_
      obtain ⟨x_302, hx_302, ho_58⟩ := yf_b ho_58
      obtain ⟨g_303, ho_58⟩ := yf_g ho_58
      refine xr_callSW (n := 651) (As := [.ref q_1, .int (xs (s_58.1 + 1).toNatClampNeg), .int (xs (s_58.1 + 2).toNatClampNeg), .int (xs (s_58.1 + 3).toNatClampNeg), .ref q_53]) (rest := []) C (kgL_ofCell l D cy hl0 (x := q_1) (a := z_28) (o := q_53) (os := a2_58) (n := s_58.2.2.2.2.2.2.1) (t := s_58.2.2.2.2.2.2.2.1) (on := s_58.2.2.2.2.2.2.2.2.1) (i1 := xs (s_58.1 + 1).toNatClampNeg) (i2 := xs (s_58.1 + 2).toNatClampNeg) (i3 := xs (s_58.1 + 3).toNatClampNeg) hx_302) mL_ofCell u_876 u_877 3 [1, 2] [0] rfl (by decide +kernel) rfl rfl rfl rfl (Nat.le_of_ble_eq_true rfl) (Nat.le_of_ble_eq_true rfl) (Nat.le_of_ble_eq_true rfl) g_303.1 g_303.2 dL_law_648 rfl (fun v_304 u_305 hp_306 => ?_)
      obtain ⟨q_307, rfl, rfl⟩ := hp_306
      refine xr_perm C 3 [2, 0, 1] [] [MW q_29 a0_58 a1_58 cy s_58.2.1 s_58.2.2.1 s_58.2.2.2.1 s_58.2.2.2.2.1 s_58.2.2.2.2.2.1, CW q_1 z_28 cy x_302.2.1 x_302.2.2.1, [(q_53, .inr (9, [.long x_302.2.2.2, q_307]))]] rfl (by decide +kernel) rfl ?_
      refine xr_st (st' := [.int x_302.1]) rfl ?_
      refine xr_istore (n := 653) C [(5, .int x_302.1), (0, .ref b), (1, .ref q_1), (2, .ref q_29), (3, .ref q_53), (4, .int s_58.1)] dL_law_651 (by decide) rfl rfl ?_
      refine xr_aload_n (n := 654) (j := 3) C dL_law_653 rfl rfl ?_
      refine xr_aload_n (n := 655) (j := 1) C dL_law_654 rfl rfl ?_
      refine xr_iload (n := 657) (j := 5) C dL_law_655 rfl rfl ?_
      refine xr_iconst (n := 658) (v := 1) C dL_law_657 rfl rfl ?_
      refine xr_iadd (n := 659) C dL_law_658 rfl ?_
      obtain ⟨g_308, ho_58⟩ := yf_g ho_58
      refine xr_sld (n := 660) C hX hbl hbA g_308 dL_law_659 rfl ?_
      refine xr_aload_n (n := 661) (j := 1) C dL_law_660 rfl rfl ?_
      refine xr_iload (n := 663) (j := 5) C dL_law_661 rfl rfl ?_
      refine xr_iconst (n := 664) (v := 2) C dL_law_663 rfl rfl ?_
      refine xr_iadd (n := 665) C dL_law_664 rfl ?_
      obtain ⟨g_309, ho_58⟩ := yf_g ho_58
      refine xr_sld (n := 666) C hX hbl hbA g_309 dL_law_665 rfl ?_
      refine xr_aload_n (n := 667) (j := 1) C dL_law_666 rfl rfl ?_
      refine xr_iload (n := 669) (j := 5) C dL_law_667 rfl rfl ?_
      refine xr_iconst (n := 670) (v := 3) C dL_law_669 rfl rfl ?_
      refine xr_iadd (n := 671) C dL_law_670 rfl ?_
      obtain ⟨g_310, ho_58⟩ := yf_g ho_58
      refine xr_sld (n := 672) C hX hbl hbA g_310 dL_law_671 rfl ?_
      obtain ⟨x_311, hx_311, ho_58⟩ := yf_b ho_58
      refine xr_callVP (n := 675) (As := [.int (xs (s_58.1 + 1).toNatClampNeg), .int (xs (s_58.1 + 2).toNatClampNeg), .int (xs (s_58.1 + 3).toNatClampNeg)]) (rest := []) C (kgX9w_ofCell l D cy (g := q_29) (a := a0_58) (ad := a1_58) (sh := s_58.2.1) (n := s_58.2.2.1) (L := s_58.2.2.2.1) (k := s_58.2.2.2.2.1) (G := s_58.2.2.2.2.2.1) (i1 := xs (s_58.1 + 1).toNatClampNeg) (i2 := xs (s_58.1 + 2).toNatClampNeg) (i3 := xs (s_58.1 + 3).toNatClampNeg) hx_311) mX9_ofCell u_1516 u_1517 u_1518 0 rfl (MW_head _ _ _ _ _ _ _ _ _) rfl 3 [0] [1, 2] rfl (by decide +kernel) rfl rfl rfl rfl (Nat.le_of_ble_eq_true rfl) (Nat.le_of_ble_eq_true rfl) (Nat.le_of_ble_eq_true rfl) g_303.1 g_303.2 dL_law_672 rfl (fun v_312 u_313 hp_314 => ?_)
      obtain ⟨q_315, q_316, rfl, rfl⟩ := hp_314
      refine xr_perm C 3 [0, 1, 2] [] [MW q_29 q_315 q_316 cy x_311.2.1 x_311.2.2.1 x_311.2.2.2.1 x_311.2.2.2.2.1 x_311.2.2.2.2.2, CW q_1 z_28 cy x_302.2.1 x_302.2.2.1, [(q_53, .inr (9, [.long x_302.2.2.2, q_307]))]] rfl (by decide +kernel) rfl ?_
      refine xr_st (st' := [.int x_311.1]) rfl ?_
      refine xr_istore (n := 677) C [(6, .int x_311.1), (5, .int x_302.1), (0, .ref b), (1, .ref q_1), (2, .ref q_29), (3, .ref q_53), (4, .int s_58.1)] dL_law_675 (by decide) rfl rfl ?_
      refine xr_goto (tgt := 895) C dL_law_677 rfl ?_
      refine xr_iinc (j := 6) (v := s_58.1 + 4) (n := 898) C [(4, .int (s_58.1 + 4)), (6, .int x_311.1), (5, .int x_302.1), (0, .ref b), (1, .ref q_1), (2, .ref q_29), (3, .ref q_53)] dL_law_895 rfl rfl (by decide) rfl rfl ?_
      refine xr_goto (tgt := 27) C dL_law_898 rfl ?_
      refine xr_lv (lv' := [(0, .ref b), (1, .ref q_1), (2, .ref q_29), (3, .ref q_53), (4, .int (s_58.1 + 4))]) [3, 4, 5, 6, 0] rfl ?_
      exact hk_58 (s_58.1 + 4, x_311.2.1, x_311.2.2.1, x_311.2.2.2.1, x_311.2.2.2.2.1, x_311.2.2.2.2.2, x_302.2.1, x_302.2.2.1, x_302.2.2.2, s_58.2.2.2.2.2.2.2.2.2.1 + 1, s_58.2.2.2.2.2.2.2.2.2.2 + 6) (Option.some.inj ho_58).symm q_315 q_316 q_307
    replace ho_58 := yf_f c_298 ho_58
    by_cases c_317 : ((xs s_58.1.toNatClampNeg) &&& 31) = 13
    · replace ho_58 := yf_t c_317 ho_58
      refine xr_tableIn (off := 637) (tgt := 680) C dL_law_43 (by rw [c_317]; decide) (by rw [c_317]; decide) (by rw [c_317]; decide) rfl ?_
      refine xr_aload_n (n := 681) (j := 1) C dL_law_680 rfl rfl ?_
      refine xr_aload_n (n := 682) (j := 0) C dL_law_681 rfl rfl ?_
      refine xr_iload (n := 684) (j := 4) C dL_law_682 rfl rfl ?_
      refine xr_iconst (n := 685) (v := 1) C dL_law_684 rfl rfl ?_
      refine xr_iadd (n := 686) C dL_law_685 rfl ?_
      obtain ⟨g_318, ho_58⟩ := yf_g ho_58
      refine xr_sld (n := 687) C hX hbl hbA g_318 dL_law_686 rfl ?_
      refine xr_aload_n (n := 688) (j := 0) C dL_law_687 rfl rfl ?_
      refine xr_iload (n := 690) (j := 4) C dL_law_688 rfl rfl ?_
      refine xr_iconst (n := 691) (v := 2) C dL_law_690 rfl rfl ?_
      refine xr_iadd (n := 692) C dL_law_691 rfl ?_
      obtain ⟨g_319, ho_58⟩ := yf_g ho_58
      refine xr_sld (n := 693) C hX hbl hbA g_319 dL_law_692 rfl ?_
      refine xr_aload_n (n := 694) (j := 3) C dL_law_693 rfl rfl ?_
      obtain ⟨x_320, hx_320, ho_58⟩ := yf_b ho_58
      obtain ⟨g_321, ho_58⟩ := yf_g ho_58
      refine xr_callSW (n := 697) (As := [.ref q_1, .int (xs (s_58.1 + 1).toNatClampNeg), .int (xs (s_58.1 + 2).toNatClampNeg), .ref q_53]) (rest := []) C (kgL_result l D cy hl0 (x := q_1) (a := z_28) (o := q_53) (os := a2_58) (n := s_58.2.2.2.2.2.2.1) (t := s_58.2.2.2.2.2.2.2.1) (on := s_58.2.2.2.2.2.2.2.2.1) (i1 := xs (s_58.1 + 1).toNatClampNeg) (i2 := xs (s_58.1 + 2).toNatClampNeg) hx_320) mL_result u_884 u_885 3 [1, 2] [0] rfl (by decide +kernel) rfl rfl rfl rfl (Nat.le_of_ble_eq_true rfl) (Nat.le_of_ble_eq_true rfl) (Nat.le_of_ble_eq_true rfl) g_321.1 g_321.2 dL_law_694 rfl (fun v_322 u_323 hp_324 => ?_)
      obtain ⟨q_325, rfl, rfl⟩ := hp_324
      refine xr_perm C 3 [2, 0, 1] [] [MW q_29 a0_58 a1_58 cy s_58.2.1 s_58.2.2.1 s_58.2.2.2.1 s_58.2.2.2.2.1 s_58.2.2.2.2.2.1, CW q_1 z_28 cy x_320.2.1 x_320.2.2.1, [(q_53, .inr (9, [.long x_320.2.2.2, q_325]))]] rfl (by decide +kernel) rfl ?_
      refine xr_st (st' := [.int x_320.1]) rfl ?_
      refine xr_istore (n := 699) C [(5, .int x_320.1), (0, .ref b), (1, .ref q_1), (2, .ref q_29), (3, .ref q_53), (4, .int s_58.1)] dL_law_697 (by decide) rfl rfl ?_
      refine xr_aload_n (n := 700) (j := 3) C dL_law_699 rfl rfl ?_
      refine xr_aload_n (n := 701) (j := 1) C dL_law_700 rfl rfl ?_
      refine xr_iload (n := 703) (j := 5) C dL_law_701 rfl rfl ?_
      refine xr_iconst (n := 704) (v := 1) C dL_law_703 rfl rfl ?_
      refine xr_iadd (n := 705) C dL_law_704 rfl ?_
      obtain ⟨g_326, ho_58⟩ := yf_g ho_58
      refine xr_sld (n := 706) C hX hbl hbA g_326 dL_law_705 rfl ?_
      refine xr_aload_n (n := 707) (j := 1) C dL_law_706 rfl rfl ?_
      refine xr_iload (n := 709) (j := 5) C dL_law_707 rfl rfl ?_
      refine xr_iconst (n := 710) (v := 2) C dL_law_709 rfl rfl ?_
      refine xr_iadd (n := 711) C dL_law_710 rfl ?_
      obtain ⟨g_327, ho_58⟩ := yf_g ho_58
      refine xr_sld (n := 712) C hX hbl hbA g_327 dL_law_711 rfl ?_
      obtain ⟨x_328, hx_328, ho_58⟩ := yf_b ho_58
      refine xr_callVP (n := 715) (As := [.int (xs (s_58.1 + 1).toNatClampNeg), .int (xs (s_58.1 + 2).toNatClampNeg)]) (rest := []) C (kgX9w_result l D cy (g := q_29) (a := a0_58) (ad := a1_58) (sh := s_58.2.1) (n := s_58.2.2.1) (L := s_58.2.2.2.1) (k := s_58.2.2.2.2.1) (G := s_58.2.2.2.2.2.1) (i1 := xs (s_58.1 + 1).toNatClampNeg) (i2 := xs (s_58.1 + 2).toNatClampNeg) hx_328) mX9_result u_1531 u_1532 u_1533 0 rfl (MW_head _ _ _ _ _ _ _ _ _) rfl 3 [0] [1, 2] rfl (by decide +kernel) rfl rfl rfl rfl (Nat.le_of_ble_eq_true rfl) (Nat.le_of_ble_eq_true rfl) (Nat.le_of_ble_eq_true rfl) g_321.1 g_321.2 dL_law_712 rfl (fun v_329 u_330 hp_331 => ?_)
      obtain ⟨q_332, q_333, rfl, rfl⟩ := hp_331
      refine xr_perm C 3 [0, 1, 2] [] [MW q_29 q_332 q_333 cy x_328.2.1 x_328.2.2.1 x_328.2.2.2.1 x_328.2.2.2.2.1 x_328.2.2.2.2.2, CW q_1 z_28 cy x_320.2.1 x_320.2.2.1, [(q_53, .inr (9, [.long x_320.2.2.2, q_325]))]] rfl (by decide +kernel) rfl ?_
      refine xr_st (st' := [.int x_328.1]) rfl ?_
      refine xr_istore (n := 717) C [(6, .int x_328.1), (5, .int x_320.1), (0, .ref b), (1, .ref q_1), (2, .ref q_29), (3, .ref q_53), (4, .int s_58.1)] dL_law_715 (by decide) rfl rfl ?_
      refine xr_goto (tgt := 895) C dL_law_717 rfl ?_
      refine xr_iinc (j := 6) (v := s_58.1 + 4) (n := 898) C [(4, .int (s_58.1 + 4)), (6, .int x_328.1), (5, .int x_320.1), (0, .ref b), (1, .ref q_1), (2, .ref q_29), (3, .ref q_53)] dL_law_895 rfl rfl (by decide) rfl rfl ?_
      refine xr_goto (tgt := 27) C dL_law_898 rfl ?_
      refine xr_lv (lv' := [(0, .ref b), (1, .ref q_1), (2, .ref q_29), (3, .ref q_53), (4, .int (s_58.1 + 4))]) [3, 4, 5, 6, 0] rfl ?_
      exact hk_58 (s_58.1 + 4, x_328.2.1, x_328.2.2.1, x_328.2.2.2.1, x_328.2.2.2.2.1, x_328.2.2.2.2.2, x_320.2.1, x_320.2.2.1, x_320.2.2.2, s_58.2.2.2.2.2.2.2.2.2.1 + 1, s_58.2.2.2.2.2.2.2.2.2.2 + 6) (Option.some.inj ho_58).symm q_332 q_333 q_325
    replace ho_58 := yf_f c_317 ho_58
    by_cases c_334 : ((xs s_58.1.toNatClampNeg) &&& 31) = 14
    · replace ho_58 := yf_t c_334 ho_58
      refine xr_tableIn (off := 677) (tgt := 720) C dL_law_43 (by rw [c_334]; decide) (by rw [c_334]; decide) (by rw [c_334]; decide) rfl ?_
      refine xr_aload_n (n := 721) (j := 1) C dL_law_720 rfl rfl ?_
      refine xr_aload_n (n := 722) (j := 0) C dL_law_721 rfl rfl ?_
      refine xr_iload (n := 724) (j := 4) C dL_law_722 rfl rfl ?_
      refine xr_iconst (n := 725) (v := 1) C dL_law_724 rfl rfl ?_
      refine xr_iadd (n := 726) C dL_law_725 rfl ?_
      obtain ⟨g_335, ho_58⟩ := yf_g ho_58
      refine xr_sld (n := 727) C hX hbl hbA g_335 dL_law_726 rfl ?_
      refine xr_aload_n (n := 728) (j := 0) C dL_law_727 rfl rfl ?_
      refine xr_iload (n := 730) (j := 4) C dL_law_728 rfl rfl ?_
      refine xr_iconst (n := 731) (v := 2) C dL_law_730 rfl rfl ?_
      refine xr_iadd (n := 732) C dL_law_731 rfl ?_
      obtain ⟨g_336, ho_58⟩ := yf_g ho_58
      refine xr_sld (n := 733) C hX hbl hbA g_336 dL_law_732 rfl ?_
      refine xr_aload_n (n := 734) (j := 3) C dL_law_733 rfl rfl ?_
      obtain ⟨x_337, hx_337, ho_58⟩ := yf_b ho_58
      obtain ⟨g_338, ho_58⟩ := yf_g ho_58
      refine xr_callSW (n := 737) (As := [.ref q_1, .int (xs (s_58.1 + 1).toNatClampNeg), .int (xs (s_58.1 + 2).toNatClampNeg), .ref q_53]) (rest := []) C (kgL_plain l D cy hl0 (x := q_1) (a := z_28) (o := q_53) (os := a2_58) (n := s_58.2.2.2.2.2.2.1) (t := s_58.2.2.2.2.2.2.2.1) (on := s_58.2.2.2.2.2.2.2.2.1) (i1 := xs (s_58.1 + 1).toNatClampNeg) (i2 := xs (s_58.1 + 2).toNatClampNeg) hx_337) mL_plain u_891 u_892 3 [1, 2] [0] rfl (by decide +kernel) rfl rfl rfl rfl (Nat.le_of_ble_eq_true rfl) (Nat.le_of_ble_eq_true rfl) (Nat.le_of_ble_eq_true rfl) g_338.1 g_338.2 dL_law_734 rfl (fun v_339 u_340 hp_341 => ?_)
      obtain ⟨q_342, rfl, rfl⟩ := hp_341
      refine xr_perm C 3 [2, 0, 1] [] [MW q_29 a0_58 a1_58 cy s_58.2.1 s_58.2.2.1 s_58.2.2.2.1 s_58.2.2.2.2.1 s_58.2.2.2.2.2.1, CW q_1 z_28 cy x_337.2.1 x_337.2.2.1, [(q_53, .inr (9, [.long x_337.2.2.2, q_342]))]] rfl (by decide +kernel) rfl ?_
      refine xr_st (st' := [.int x_337.1]) rfl ?_
      refine xr_istore (n := 739) C [(5, .int x_337.1), (0, .ref b), (1, .ref q_1), (2, .ref q_29), (3, .ref q_53), (4, .int s_58.1)] dL_law_737 (by decide) rfl rfl ?_
      refine xr_aload_n (n := 740) (j := 3) C dL_law_739 rfl rfl ?_
      refine xr_aload_n (n := 741) (j := 1) C dL_law_740 rfl rfl ?_
      refine xr_iload (n := 743) (j := 5) C dL_law_741 rfl rfl ?_
      refine xr_iconst (n := 744) (v := 1) C dL_law_743 rfl rfl ?_
      refine xr_iadd (n := 745) C dL_law_744 rfl ?_
      obtain ⟨g_343, ho_58⟩ := yf_g ho_58
      refine xr_sld (n := 746) C hX hbl hbA g_343 dL_law_745 rfl ?_
      refine xr_aload_n (n := 747) (j := 1) C dL_law_746 rfl rfl ?_
      refine xr_iload (n := 749) (j := 5) C dL_law_747 rfl rfl ?_
      refine xr_iconst (n := 750) (v := 2) C dL_law_749 rfl rfl ?_
      refine xr_iadd (n := 751) C dL_law_750 rfl ?_
      obtain ⟨g_344, ho_58⟩ := yf_g ho_58
      refine xr_sld (n := 752) C hX hbl hbA g_344 dL_law_751 rfl ?_
      obtain ⟨x_345, hx_345, ho_58⟩ := yf_b ho_58
      refine xr_callVP (n := 755) (As := [.int (xs (s_58.1 + 1).toNatClampNeg), .int (xs (s_58.1 + 2).toNatClampNeg)]) (rest := []) C (kgX9w_plain l D cy (g := q_29) (a := a0_58) (ad := a1_58) (sh := s_58.2.1) (n := s_58.2.2.1) (L := s_58.2.2.2.1) (k := s_58.2.2.2.2.1) (G := s_58.2.2.2.2.2.1) (i1 := xs (s_58.1 + 1).toNatClampNeg) (i2 := xs (s_58.1 + 2).toNatClampNeg) hx_345) mX9_plain u_1535 u_1536 u_1537 0 rfl (MW_head _ _ _ _ _ _ _ _ _) rfl 3 [0] [1, 2] rfl (by decide +kernel) rfl rfl rfl rfl (Nat.le_of_ble_eq_true rfl) (Nat.le_of_ble_eq_true rfl) (Nat.le_of_ble_eq_true rfl) g_338.1 g_338.2 dL_law_752 rfl (fun v_346 u_347 hp_348 => ?_)
      obtain ⟨q_349, q_350, rfl, rfl⟩ := hp_348
      refine xr_perm C 3 [0, 1, 2] [] [MW q_29 q_349 q_350 cy x_345.2.1 x_345.2.2.1 x_345.2.2.2.1 x_345.2.2.2.2.1 x_345.2.2.2.2.2, CW q_1 z_28 cy x_337.2.1 x_337.2.2.1, [(q_53, .inr (9, [.long x_337.2.2.2, q_342]))]] rfl (by decide +kernel) rfl ?_
      refine xr_st (st' := [.int x_345.1]) rfl ?_
      refine xr_istore (n := 757) C [(6, .int x_345.1), (5, .int x_337.1), (0, .ref b), (1, .ref q_1), (2, .ref q_29), (3, .ref q_53), (4, .int s_58.1)] dL_law_755 (by decide) rfl rfl ?_
      refine xr_goto (tgt := 895) C dL_law_757 rfl ?_
      refine xr_iinc (j := 6) (v := s_58.1 + 4) (n := 898) C [(4, .int (s_58.1 + 4)), (6, .int x_345.1), (5, .int x_337.1), (0, .ref b), (1, .ref q_1), (2, .ref q_29), (3, .ref q_53)] dL_law_895 rfl rfl (by decide) rfl rfl ?_
      refine xr_goto (tgt := 27) C dL_law_898 rfl ?_
      refine xr_lv (lv' := [(0, .ref b), (1, .ref q_1), (2, .ref q_29), (3, .ref q_53), (4, .int (s_58.1 + 4))]) [3, 4, 5, 6, 0] rfl ?_
      exact hk_58 (s_58.1 + 4, x_345.2.1, x_345.2.2.1, x_345.2.2.2.1, x_345.2.2.2.2.1, x_345.2.2.2.2.2, x_337.2.1, x_337.2.2.1, x_337.2.2.2, s_58.2.2.2.2.2.2.2.2.2.1 + 1, s_58.2.2.2.2.2.2.2.2.2.2 + 6) (Option.some.inj ho_58).symm q_349 q_350 q_342
    replace ho_58 := yf_f c_334 ho_58
    by_cases c_351 : ((xs s_58.1.toNatClampNeg) &&& 31) = 15
    · replace ho_58 := yf_t c_351 ho_58
      refine xr_tableIn (off := 717) (tgt := 760) C dL_law_43 (by rw [c_351]; decide) (by rw [c_351]; decide) (by rw [c_351]; decide) rfl ?_
      refine xr_aload_n (n := 761) (j := 1) C dL_law_760 rfl rfl ?_
      refine xr_aload_n (n := 762) (j := 0) C dL_law_761 rfl rfl ?_
      refine xr_iload (n := 764) (j := 4) C dL_law_762 rfl rfl ?_
      refine xr_iconst (n := 765) (v := 1) C dL_law_764 rfl rfl ?_
      refine xr_iadd (n := 766) C dL_law_765 rfl ?_
      obtain ⟨g_352, ho_58⟩ := yf_g ho_58
      refine xr_sld (n := 767) C hX hbl hbA g_352 dL_law_766 rfl ?_
      refine xr_aload_n (n := 768) (j := 3) C dL_law_767 rfl rfl ?_
      obtain ⟨x_353, hx_353, ho_58⟩ := yf_b ho_58
      obtain ⟨g_354, ho_58⟩ := yf_g ho_58
      refine xr_callSW (n := 771) (As := [.ref q_1, .int (xs (s_58.1 + 1).toNatClampNeg), .ref q_53]) (rest := []) C (kgL_row l D cy hl0 (x := q_1) (a := z_28) (o := q_53) (os := a2_58) (n := s_58.2.2.2.2.2.2.1) (t := s_58.2.2.2.2.2.2.2.1) (on := s_58.2.2.2.2.2.2.2.2.1) (i1 := xs (s_58.1 + 1).toNatClampNeg) hx_353) mL_row u_899 u_900 3 [1, 2] [0] rfl (by decide +kernel) rfl rfl rfl rfl (Nat.le_of_ble_eq_true rfl) (Nat.le_of_ble_eq_true rfl) (Nat.le_of_ble_eq_true rfl) g_354.1 g_354.2 dL_law_768 rfl (fun v_355 u_356 hp_357 => ?_)
      obtain ⟨q_358, rfl, rfl⟩ := hp_357
      refine xr_perm C 3 [2, 0, 1] [] [MW q_29 a0_58 a1_58 cy s_58.2.1 s_58.2.2.1 s_58.2.2.2.1 s_58.2.2.2.2.1 s_58.2.2.2.2.2.1, CW q_1 z_28 cy x_353.2.1 x_353.2.2.1, [(q_53, .inr (9, [.long x_353.2.2.2, q_358]))]] rfl (by decide +kernel) rfl ?_
      refine xr_st (st' := [.int x_353.1]) rfl ?_
      refine xr_istore (n := 773) C [(5, .int x_353.1), (0, .ref b), (1, .ref q_1), (2, .ref q_29), (3, .ref q_53), (4, .int s_58.1)] dL_law_771 (by decide) rfl rfl ?_
      refine xr_aload_n (n := 774) (j := 3) C dL_law_773 rfl rfl ?_
      refine xr_aload_n (n := 775) (j := 1) C dL_law_774 rfl rfl ?_
      refine xr_iload (n := 777) (j := 5) C dL_law_775 rfl rfl ?_
      refine xr_iconst (n := 778) (v := 1) C dL_law_777 rfl rfl ?_
      refine xr_iadd (n := 779) C dL_law_778 rfl ?_
      obtain ⟨g_359, ho_58⟩ := yf_g ho_58
      refine xr_sld (n := 780) C hX hbl hbA g_359 dL_law_779 rfl ?_
      obtain ⟨x_360, hx_360, ho_58⟩ := yf_b ho_58
      obtain ⟨g_361, ho_58⟩ := yf_g ho_58
      refine xr_callVP (n := 783) (As := [.int (xs (s_58.1 + 1).toNatClampNeg)]) (rest := []) C (kgX9w_row l D cy (g := q_29) (a := a0_58) (ad := a1_58) (sh := s_58.2.1) (n := s_58.2.2.1) (L := s_58.2.2.2.1) (k := s_58.2.2.2.2.1) (G := s_58.2.2.2.2.2.1) (i1 := xs (s_58.1 + 1).toNatClampNeg) hx_360) mX9_row u_1547 u_1548 u_1549 0 rfl (MW_head _ _ _ _ _ _ _ _ _) rfl 3 [0] [1, 2] rfl (by decide +kernel) rfl rfl rfl rfl (Nat.le_of_ble_eq_true rfl) (Nat.le_of_ble_eq_true rfl) (Nat.le_of_ble_eq_true rfl) g_361.1 g_361.2 dL_law_780 rfl (fun v_362 u_363 hp_364 => ?_)
      obtain ⟨q_365, q_366, q_367, rfl, rfl⟩ := hp_364
      refine xr_perm C 3 [0, 1, 2] [] [MW q_29 q_365 q_366 cy x_360.1 x_360.2.1 x_360.2.2.1 x_360.2.2.2.1 x_360.2.2.2.2, CW q_1 z_28 cy x_353.2.1 x_353.2.2.1, [(q_53, .inr (9, [.long x_353.2.2.2, q_358]))]] rfl (by decide +kernel) rfl ?_
      refine xr_st (st' := [.ref q_367]) rfl ?_
      refine xr_astore (n := 785) C [(6, .ref q_367), (5, .int x_353.1), (0, .ref b), (1, .ref q_1), (2, .ref q_29), (3, .ref q_53), (4, .int s_58.1)] dL_law_783 (by decide) rfl rfl ?_
      refine xr_goto (tgt := 895) C dL_law_785 rfl ?_
      refine xr_iinc (j := 6) (v := s_58.1 + 4) (n := 898) C [(4, .int (s_58.1 + 4)), (6, .ref q_367), (5, .int x_353.1), (0, .ref b), (1, .ref q_1), (2, .ref q_29), (3, .ref q_53)] dL_law_895 rfl rfl (by decide) rfl rfl ?_
      refine xr_goto (tgt := 27) C dL_law_898 rfl ?_
      refine xr_lv (lv' := [(0, .ref b), (1, .ref q_1), (2, .ref q_29), (3, .ref q_53), (4, .int (s_58.1 + 4))]) [3, 4, 5, 6, 0] rfl ?_
      exact hk_58 (s_58.1 + 4, x_360.1, x_360.2.1, x_360.2.2.1, x_360.2.2.2.1, x_360.2.2.2.2, x_353.2.1, x_353.2.2.1, x_353.2.2.2, s_58.2.2.2.2.2.2.2.2.2.1 + 4 + 4, s_58.2.2.2.2.2.2.2.2.2.2 + 40 + 40) (Option.some.inj ho_58).symm q_365 q_366 q_358
    replace ho_58 := yf_f c_351 ho_58
    by_cases c_368 : ((xs s_58.1.toNatClampNeg) &&& 31) = 16
    · replace ho_58 := yf_t c_368 ho_58
      refine xr_tableIn (off := 745) (tgt := 788) C dL_law_43 (by rw [c_368]; decide) (by rw [c_368]; decide) (by rw [c_368]; decide) rfl ?_
      refine xr_aload_n (n := 789) (j := 1) C dL_law_788 rfl rfl ?_
      refine xr_aload_n (n := 790) (j := 0) C dL_law_789 rfl rfl ?_
      refine xr_iload (n := 792) (j := 4) C dL_law_790 rfl rfl ?_
      refine xr_iconst (n := 793) (v := 1) C dL_law_792 rfl rfl ?_
      refine xr_iadd (n := 794) C dL_law_793 rfl ?_
      obtain ⟨g_369, ho_58⟩ := yf_g ho_58
      refine xr_sld (n := 795) C hX hbl hbA g_369 dL_law_794 rfl ?_
      refine xr_aload_n (n := 796) (j := 0) C dL_law_795 rfl rfl ?_
      refine xr_iload (n := 798) (j := 4) C dL_law_796 rfl rfl ?_
      refine xr_iconst (n := 799) (v := 2) C dL_law_798 rfl rfl ?_
      refine xr_iadd (n := 800) C dL_law_799 rfl ?_
      obtain ⟨g_370, ho_58⟩ := yf_g ho_58
      refine xr_sld (n := 801) C hX hbl hbA g_370 dL_law_800 rfl ?_
      refine xr_aload_n (n := 802) (j := 3) C dL_law_801 rfl rfl ?_
      obtain ⟨x_371, hx_371, ho_58⟩ := yf_b ho_58
      obtain ⟨g_372, ho_58⟩ := yf_g ho_58
      refine xr_callSW (n := 805) (As := [.ref q_1, .int (xs (s_58.1 + 1).toNatClampNeg), .int (xs (s_58.1 + 2).toNatClampNeg), .ref q_53]) (rest := []) C (kgL_beats l D cy hl0 (x := q_1) (a := z_28) (o := q_53) (os := a2_58) (n := s_58.2.2.2.2.2.2.1) (t := s_58.2.2.2.2.2.2.2.1) (on := s_58.2.2.2.2.2.2.2.2.1) (i1 := xs (s_58.1 + 1).toNatClampNeg) (i2 := xs (s_58.1 + 2).toNatClampNeg) hx_371) mL_beats u_1172 u_1173 3 [1, 2] [0] rfl (by decide +kernel) rfl rfl rfl rfl (Nat.le_of_ble_eq_true rfl) (Nat.le_of_ble_eq_true rfl) (Nat.le_of_ble_eq_true rfl) g_372.1 g_372.2 dL_law_802 rfl (fun v_373 u_374 hp_375 => ?_)
      obtain ⟨q_376, rfl, rfl⟩ := hp_375
      refine xr_perm C 3 [2, 0, 1] [] [MW q_29 a0_58 a1_58 cy s_58.2.1 s_58.2.2.1 s_58.2.2.2.1 s_58.2.2.2.2.1 s_58.2.2.2.2.2.1, CW q_1 z_28 cy x_371.2.1 x_371.2.2.1, [(q_53, .inr (9, [.long x_371.2.2.2, q_376]))]] rfl (by decide +kernel) rfl ?_
      refine xr_st (st' := [.int x_371.1]) rfl ?_
      refine xr_istore (n := 807) C [(5, .int x_371.1), (0, .ref b), (1, .ref q_1), (2, .ref q_29), (3, .ref q_53), (4, .int s_58.1)] dL_law_805 (by decide) rfl rfl ?_
      refine xr_aload_n (n := 808) (j := 3) C dL_law_807 rfl rfl ?_
      refine xr_aload_n (n := 809) (j := 1) C dL_law_808 rfl rfl ?_
      refine xr_iload (n := 811) (j := 5) C dL_law_809 rfl rfl ?_
      refine xr_iconst (n := 812) (v := 1) C dL_law_811 rfl rfl ?_
      refine xr_iadd (n := 813) C dL_law_812 rfl ?_
      obtain ⟨g_377, ho_58⟩ := yf_g ho_58
      refine xr_sld (n := 814) C hX hbl hbA g_377 dL_law_813 rfl ?_
      refine xr_aload_n (n := 815) (j := 1) C dL_law_814 rfl rfl ?_
      refine xr_iload (n := 817) (j := 5) C dL_law_815 rfl rfl ?_
      refine xr_iconst (n := 818) (v := 2) C dL_law_817 rfl rfl ?_
      refine xr_iadd (n := 819) C dL_law_818 rfl ?_
      obtain ⟨g_378, ho_58⟩ := yf_g ho_58
      refine xr_sld (n := 820) C hX hbl hbA g_378 dL_law_819 rfl ?_
      obtain ⟨x_379, hx_379, ho_58⟩ := yf_b ho_58
      refine xr_callVP (n := 823) (As := [.int (xs (s_58.1 + 1).toNatClampNeg), .int (xs (s_58.1 + 2).toNatClampNeg)]) (rest := []) C (kgX9w_beats l D cy (g := q_29) (a := a0_58) (ad := a1_58) (sh := s_58.2.1) (n := s_58.2.2.1) (L := s_58.2.2.2.1) (k := s_58.2.2.2.2.1) (G := s_58.2.2.2.2.2.1) (i1 := xs (s_58.1 + 1).toNatClampNeg) (i2 := xs (s_58.1 + 2).toNatClampNeg) hx_379) mX9_beats u_1556 u_1557 u_1558 0 rfl (MW_head _ _ _ _ _ _ _ _ _) rfl 3 [0] [1, 2] rfl (by decide +kernel) rfl rfl rfl rfl (Nat.le_of_ble_eq_true rfl) (Nat.le_of_ble_eq_true rfl) (Nat.le_of_ble_eq_true rfl) g_372.1 g_372.2 dL_law_820 rfl (fun v_380 u_381 hp_382 => ?_)
      obtain ⟨q_383, q_384, rfl, rfl⟩ := hp_382
      refine xr_perm C 3 [0, 1, 2] [] [MW q_29 q_383 q_384 cy x_379.2.1 x_379.2.2.1 x_379.2.2.2.1 x_379.2.2.2.2.1 x_379.2.2.2.2.2, CW q_1 z_28 cy x_371.2.1 x_371.2.2.1, [(q_53, .inr (9, [.long x_371.2.2.2, q_376]))]] rfl (by decide +kernel) rfl ?_
      refine xr_st (st' := [.int x_379.1]) rfl ?_
      refine xr_istore (n := 825) C [(6, .int x_379.1), (5, .int x_371.1), (0, .ref b), (1, .ref q_1), (2, .ref q_29), (3, .ref q_53), (4, .int s_58.1)] dL_law_823 (by decide) rfl rfl ?_
      refine xr_goto (tgt := 895) C dL_law_825 rfl ?_
      refine xr_iinc (j := 6) (v := s_58.1 + 4) (n := 898) C [(4, .int (s_58.1 + 4)), (6, .int x_379.1), (5, .int x_371.1), (0, .ref b), (1, .ref q_1), (2, .ref q_29), (3, .ref q_53)] dL_law_895 rfl rfl (by decide) rfl rfl ?_
      refine xr_goto (tgt := 27) C dL_law_898 rfl ?_
      refine xr_lv (lv' := [(0, .ref b), (1, .ref q_1), (2, .ref q_29), (3, .ref q_53), (4, .int (s_58.1 + 4))]) [3, 4, 5, 6, 0] rfl ?_
      exact hk_58 (s_58.1 + 4, x_379.2.1, x_379.2.2.1, x_379.2.2.2.1, x_379.2.2.2.2.1, x_379.2.2.2.2.2, x_371.2.1, x_371.2.2.1, x_371.2.2.2, s_58.2.2.2.2.2.2.2.2.2.1 + 1, s_58.2.2.2.2.2.2.2.2.2.2 + 6) (Option.some.inj ho_58).symm q_383 q_384 q_376
    replace ho_58 := yf_f c_368 ho_58
    by_cases c_385 : ((xs s_58.1.toNatClampNeg) &&& 31) = 17
    · replace ho_58 := yf_t c_385 ho_58
      refine xr_tableIn (off := 785) (tgt := 828) C dL_law_43 (by rw [c_385]; decide) (by rw [c_385]; decide) (by rw [c_385]; decide) rfl ?_
      refine xr_aload_n (n := 829) (j := 1) C dL_law_828 rfl rfl ?_
      refine xr_aload_n (n := 830) (j := 0) C dL_law_829 rfl rfl ?_
      refine xr_iload (n := 832) (j := 4) C dL_law_830 rfl rfl ?_
      refine xr_iconst (n := 833) (v := 1) C dL_law_832 rfl rfl ?_
      refine xr_iadd (n := 834) C dL_law_833 rfl ?_
      obtain ⟨g_386, ho_58⟩ := yf_g ho_58
      refine xr_sld (n := 835) C hX hbl hbA g_386 dL_law_834 rfl ?_
      refine xr_aload_n (n := 836) (j := 3) C dL_law_835 rfl rfl ?_
      obtain ⟨x_387, hx_387, ho_58⟩ := yf_b ho_58
      obtain ⟨g_388, ho_58⟩ := yf_g ho_58
      refine xr_callSW (n := 839) (As := [.ref q_1, .int (xs (s_58.1 + 1).toNatClampNeg), .ref q_53]) (rest := []) C (kgL_best l D cy hl0 (x := q_1) (a := z_28) (o := q_53) (os := a2_58) (n := s_58.2.2.2.2.2.2.1) (t := s_58.2.2.2.2.2.2.2.1) (on := s_58.2.2.2.2.2.2.2.2.1) (i1 := xs (s_58.1 + 1).toNatClampNeg) hx_387) mL_best u_1180 u_1181 3 [1, 2] [0] rfl (by decide +kernel) rfl rfl rfl rfl (Nat.le_of_ble_eq_true rfl) (Nat.le_of_ble_eq_true rfl) (Nat.le_of_ble_eq_true rfl) g_388.1 g_388.2 dL_law_836 rfl (fun v_389 u_390 hp_391 => ?_)
      obtain ⟨q_392, rfl, rfl⟩ := hp_391
      refine xr_perm C 3 [2, 0, 1] [] [MW q_29 a0_58 a1_58 cy s_58.2.1 s_58.2.2.1 s_58.2.2.2.1 s_58.2.2.2.2.1 s_58.2.2.2.2.2.1, CW q_1 z_28 cy x_387.2.1 x_387.2.2.1, [(q_53, .inr (9, [.long x_387.2.2.2, q_392]))]] rfl (by decide +kernel) rfl ?_
      refine xr_st (st' := [.int x_387.1]) rfl ?_
      refine xr_istore (n := 841) C [(5, .int x_387.1), (0, .ref b), (1, .ref q_1), (2, .ref q_29), (3, .ref q_53), (4, .int s_58.1)] dL_law_839 (by decide) rfl rfl ?_
      refine xr_aload_n (n := 842) (j := 3) C dL_law_841 rfl rfl ?_
      refine xr_aload_n (n := 843) (j := 1) C dL_law_842 rfl rfl ?_
      refine xr_iload (n := 845) (j := 5) C dL_law_843 rfl rfl ?_
      refine xr_iconst (n := 846) (v := 1) C dL_law_845 rfl rfl ?_
      refine xr_iadd (n := 847) C dL_law_846 rfl ?_
      obtain ⟨g_393, ho_58⟩ := yf_g ho_58
      refine xr_sld (n := 848) C hX hbl hbA g_393 dL_law_847 rfl ?_
      obtain ⟨x_394, hx_394, ho_58⟩ := yf_b ho_58
      obtain ⟨g_395, ho_58⟩ := yf_g ho_58
      refine xr_callVP (n := 851) (As := [.int (xs (s_58.1 + 1).toNatClampNeg)]) (rest := []) C (kgX9w_best l D cy (g := q_29) (a := a0_58) (ad := a1_58) (sh := s_58.2.1) (n := s_58.2.2.1) (L := s_58.2.2.2.1) (k := s_58.2.2.2.2.1) (G := s_58.2.2.2.2.2.1) (i1 := xs (s_58.1 + 1).toNatClampNeg) hx_394) mX9_best u_1560 u_1561 u_1562 0 rfl (MW_head _ _ _ _ _ _ _ _ _) rfl 3 [0] [1, 2] rfl (by decide +kernel) rfl rfl rfl rfl (Nat.le_of_ble_eq_true rfl) (Nat.le_of_ble_eq_true rfl) (Nat.le_of_ble_eq_true rfl) g_395.1 g_395.2 dL_law_848 rfl (fun v_396 u_397 hp_398 => ?_)
      obtain ⟨q_399, q_400, rfl, rfl⟩ := hp_398
      refine xr_perm C 3 [0, 1, 2] [] [MW q_29 q_399 q_400 cy x_394.2.1 x_394.2.2.1 x_394.2.2.2.1 x_394.2.2.2.2.1 x_394.2.2.2.2.2, CW q_1 z_28 cy x_387.2.1 x_387.2.2.1, [(q_53, .inr (9, [.long x_387.2.2.2, q_392]))]] rfl (by decide +kernel) rfl ?_
      refine xr_st (st' := [.int x_394.1]) rfl ?_
      refine xr_istore (n := 853) C [(6, .int x_394.1), (5, .int x_387.1), (0, .ref b), (1, .ref q_1), (2, .ref q_29), (3, .ref q_53), (4, .int s_58.1)] dL_law_851 (by decide) rfl rfl ?_
      refine xr_goto (tgt := 895) C dL_law_853 rfl ?_
      refine xr_iinc (j := 6) (v := s_58.1 + 4) (n := 898) C [(4, .int (s_58.1 + 4)), (6, .int x_394.1), (5, .int x_387.1), (0, .ref b), (1, .ref q_1), (2, .ref q_29), (3, .ref q_53)] dL_law_895 rfl rfl (by decide) rfl rfl ?_
      refine xr_goto (tgt := 27) C dL_law_898 rfl ?_
      refine xr_lv (lv' := [(0, .ref b), (1, .ref q_1), (2, .ref q_29), (3, .ref q_53), (4, .int (s_58.1 + 4))]) [3, 4, 5, 6, 0] rfl ?_
      exact hk_58 (s_58.1 + 4, x_394.2.1, x_394.2.2.1, x_394.2.2.2.1, x_394.2.2.2.2.1, x_394.2.2.2.2.2, x_387.2.1, x_387.2.2.1, x_387.2.2.2, s_58.2.2.2.2.2.2.2.2.2.1 + 1 + 30, s_58.2.2.2.2.2.2.2.2.2.2 + 6 + 60) (Option.some.inj ho_58).symm q_399 q_400 q_392
    replace ho_58 := yf_f c_385 ho_58
    by_cases c_401 : ((xs s_58.1.toNatClampNeg) &&& 31) = 18
    · replace ho_58 := yf_t c_401 ho_58
      refine xr_tableIn (off := 813) (tgt := 856) C dL_law_43 (by rw [c_401]; decide) (by rw [c_401]; decide) (by rw [c_401]; decide) rfl ?_
      refine xr_aload_n (n := 857) (j := 1) C dL_law_856 rfl rfl ?_
      obtain ⟨x_402, hx_402, ho_58⟩ := yf_b ho_58
      refine xr_callVP (n := 860) (As := []) (rest := []) C (kgX6_saved l D cy (x := q_1) (a := z_28) (n := s_58.2.2.2.2.2.2.1) (t := s_58.2.2.2.2.2.2.2.1) hx_402) mX6_saved u_308 u_309 u_310 1 rfl (CW_head _ _ _ _ _) rfl 3 [1] [0, 2] rfl (by decide +kernel) rfl rfl rfl rfl (Nat.le_of_ble_eq_true rfl) (Nat.le_of_ble_eq_true rfl) (Nat.le_of_ble_eq_true rfl) g_60.1 g_60.2 dL_law_857 rfl (fun v_403 u_404 hp_405 => ?_)
      obtain ⟨rfl, rfl⟩ := hp_405
      refine xr_perm C 3 [1, 0, 2] [] [MW q_29 a0_58 a1_58 cy s_58.2.1 s_58.2.2.1 s_58.2.2.2.1 s_58.2.2.2.2.1 s_58.2.2.2.2.2.1, CW q_1 z_28 cy x_402.2.1 x_402.2.2, [(q_53, .inr (9, [.long s_58.2.2.2.2.2.2.2.2.1, a2_58]))]] rfl (by decide +kernel) rfl ?_
      refine xr_st (st' := [.int x_402.1]) rfl ?_
      refine xr_pop (n := 861) C dL_law_860 rfl rfl ?_
      refine xr_aload_n (n := 862) (j := 2) C dL_law_861 rfl rfl ?_
      obtain ⟨x_406, hx_406, ho_58⟩ := yf_b ho_58
      obtain ⟨g_407, ho_58⟩ := yf_g ho_58
      refine xr_callVP (n := 865) (As := []) (rest := []) C (kgX9w_saved l D cy (g := q_29) (a := a0_58) (ad := a1_58) (sh := s_58.2.1) (n := s_58.2.2.1) (L := s_58.2.2.2.1) (k := s_58.2.2.2.2.1) (G := s_58.2.2.2.2.2.1) hx_406) mX9_saved u_1568 u_1569 u_1570 0 rfl (MW_head _ _ _ _ _ _ _ _ _) rfl 3 [0] [1, 2] rfl (by decide +kernel) rfl rfl rfl rfl (Nat.le_of_ble_eq_true rfl) (Nat.le_of_ble_eq_true rfl) (Nat.le_of_ble_eq_true rfl) g_407.1 g_407.2 dL_law_862 rfl (fun v_408 u_409 hp_410 => ?_)
      obtain ⟨q_411, q_412, rfl, rfl⟩ := hp_410
      refine xr_perm C 3 [0, 1, 2] [] [MW q_29 q_411 q_412 cy x_406.2.1 x_406.2.2.1 x_406.2.2.2.1 x_406.2.2.2.2.1 x_406.2.2.2.2.2, CW q_1 z_28 cy x_402.2.1 x_402.2.2, [(q_53, .inr (9, [.long s_58.2.2.2.2.2.2.2.2.1, a2_58]))]] rfl (by decide +kernel) rfl ?_
      refine xr_st (st' := [.int x_406.1]) rfl ?_
      refine xr_pop (n := 866) C dL_law_865 rfl rfl ?_
      refine xr_goto (tgt := 895) C dL_law_866 rfl ?_
      refine xr_iinc (j := 4) (v := s_58.1 + 4) (n := 898) C [(4, .int (s_58.1 + 4)), (0, .ref b), (1, .ref q_1), (2, .ref q_29), (3, .ref q_53)] dL_law_895 rfl rfl (by decide) rfl rfl ?_
      refine xr_goto (tgt := 27) C dL_law_898 rfl ?_
      refine xr_lv (lv' := [(0, .ref b), (1, .ref q_1), (2, .ref q_29), (3, .ref q_53), (4, .int (s_58.1 + 4))]) [1, 2, 3, 4, 0] rfl ?_
      exact hk_58 (s_58.1 + 4, x_406.2.1, x_406.2.2.1, x_406.2.2.2.1, x_406.2.2.2.2.1, x_406.2.2.2.2.2, x_402.2.1, x_402.2.2, s_58.2.2.2.2.2.2.2.2.1, s_58.2.2.2.2.2.2.2.2.2.1 + 60, s_58.2.2.2.2.2.2.2.2.2.2 + 120) (Option.some.inj ho_58).symm q_411 q_412 a2_58
    replace ho_58 := yf_f c_401 ho_58
    by_cases c_413 : ((xs s_58.1.toNatClampNeg) &&& 31) = 19
    · replace ho_58 := yf_t c_413 ho_58
      refine xr_tableIn (off := 826) (tgt := 869) C dL_law_43 (by rw [c_413]; decide) (by rw [c_413]; decide) (by rw [c_413]; decide) rfl ?_
      refine xr_aload_n (n := 870) (j := 1) C dL_law_869 rfl rfl ?_
      obtain ⟨x_414, hx_414, ho_58⟩ := yf_b ho_58
      refine xr_callVP (n := 873) (As := []) (rest := []) C (kgX6_isSound l D cy (x := q_1) (a := z_28) (n := s_58.2.2.2.2.2.2.1) (t := s_58.2.2.2.2.2.2.2.1) hx_414) mX6_isSound u_391 u_392 u_393 1 rfl (CW_head _ _ _ _ _) rfl 3 [1] [0, 2] rfl (by decide +kernel) rfl rfl rfl rfl (Nat.le_of_ble_eq_true rfl) (Nat.le_of_ble_eq_true rfl) (Nat.le_of_ble_eq_true rfl) g_60.1 g_60.2 dL_law_870 rfl (fun v_415 u_416 hp_417 => ?_)
      obtain ⟨rfl, rfl⟩ := hp_417
      refine xr_perm C 3 [1, 0, 2] [] [MW q_29 a0_58 a1_58 cy s_58.2.1 s_58.2.2.1 s_58.2.2.2.1 s_58.2.2.2.2.1 s_58.2.2.2.2.2.1, CW q_1 z_28 cy x_414.2.1 x_414.2.2, [(q_53, .inr (9, [.long s_58.2.2.2.2.2.2.2.2.1, a2_58]))]] rfl (by decide +kernel) rfl ?_
      refine xr_st (st' := [.int x_414.1]) rfl ?_
      refine xr_pop (n := 874) C dL_law_873 rfl rfl ?_
      refine xr_aload_n (n := 875) (j := 2) C dL_law_874 rfl rfl ?_
      obtain ⟨x_418, hx_418, ho_58⟩ := yf_b ho_58
      obtain ⟨g_419, ho_58⟩ := yf_g ho_58
      refine xr_callVP (n := 878) (As := []) (rest := []) C (kgX9w_isSound l D cy (g := q_29) (a := a0_58) (ad := a1_58) (sh := s_58.2.1) (n := s_58.2.2.1) (L := s_58.2.2.2.1) (k := s_58.2.2.2.2.1) (G := s_58.2.2.2.2.2.1) hx_418) mX9_isSound u_1576 u_1577 u_1578 0 rfl (MW_head _ _ _ _ _ _ _ _ _) rfl 3 [0] [1, 2] rfl (by decide +kernel) rfl rfl rfl rfl (Nat.le_of_ble_eq_true rfl) (Nat.le_of_ble_eq_true rfl) (Nat.le_of_ble_eq_true rfl) g_419.1 g_419.2 dL_law_875 rfl (fun v_420 u_421 hp_422 => ?_)
      obtain ⟨q_423, q_424, rfl, rfl⟩ := hp_422
      refine xr_perm C 3 [0, 1, 2] [] [MW q_29 q_423 q_424 cy x_418.2.1 x_418.2.2.1 x_418.2.2.2.1 x_418.2.2.2.2.1 x_418.2.2.2.2.2, CW q_1 z_28 cy x_414.2.1 x_414.2.2, [(q_53, .inr (9, [.long s_58.2.2.2.2.2.2.2.2.1, a2_58]))]] rfl (by decide +kernel) rfl ?_
      refine xr_st (st' := [.int x_418.1]) rfl ?_
      refine xr_pop (n := 879) C dL_law_878 rfl rfl ?_
      refine xr_goto (tgt := 895) C dL_law_879 rfl ?_
      refine xr_iinc (j := 4) (v := s_58.1 + 4) (n := 898) C [(4, .int (s_58.1 + 4)), (0, .ref b), (1, .ref q_1), (2, .ref q_29), (3, .ref q_53)] dL_law_895 rfl rfl (by decide) rfl rfl ?_
      refine xr_goto (tgt := 27) C dL_law_898 rfl ?_
      refine xr_lv (lv' := [(0, .ref b), (1, .ref q_1), (2, .ref q_29), (3, .ref q_53), (4, .int (s_58.1 + 4))]) [1, 2, 3, 4, 0] rfl ?_
      exact hk_58 (s_58.1 + 4, x_418.2.1, x_418.2.2.1, x_418.2.2.2.1, x_418.2.2.2.2.1, x_418.2.2.2.2.2, x_414.2.1, x_414.2.2, s_58.2.2.2.2.2.2.2.2.1, s_58.2.2.2.2.2.2.2.2.2.1 + 30, s_58.2.2.2.2.2.2.2.2.2.2 + 60) (Option.some.inj ho_58).symm q_423 q_424 a2_58
    replace ho_58 := yf_f c_413 ho_58
    by_cases c_425 : ((xs s_58.1.toNatClampNeg) &&& 31) = 20
    · replace ho_58 := yf_t c_425 ho_58
      refine xr_tableIn (off := 839) (tgt := 882) C dL_law_43 (by rw [c_425]; decide) (by rw [c_425]; decide) (by rw [c_425]; decide) rfl ?_
      refine xr_aload_n (n := 883) (j := 1) C dL_law_882 rfl rfl ?_
      obtain ⟨x_426, hx_426, ho_58⟩ := yf_b ho_58
      refine xr_callVP (n := 886) (As := []) (rest := []) C (kgX6_digest l D cy (x := q_1) (a := z_28) (n := s_58.2.2.2.2.2.2.1) (t := s_58.2.2.2.2.2.2.2.1) hx_426) mX6_digest u_456 u_457 u_458 1 rfl (CW_head _ _ _ _ _) rfl 3 [1] [0, 2] rfl (by decide +kernel) rfl rfl rfl rfl (Nat.le_of_ble_eq_true rfl) (Nat.le_of_ble_eq_true rfl) (Nat.le_of_ble_eq_true rfl) g_60.1 g_60.2 dL_law_883 rfl (fun v_427 u_428 hp_429 => ?_)
      obtain ⟨rfl, rfl⟩ := hp_429
      refine xr_perm C 3 [1, 0, 2] [] [MW q_29 a0_58 a1_58 cy s_58.2.1 s_58.2.2.1 s_58.2.2.2.1 s_58.2.2.2.2.1 s_58.2.2.2.2.2.1, CW q_1 z_28 cy x_426.2.1 x_426.2.2, [(q_53, .inr (9, [.long s_58.2.2.2.2.2.2.2.2.1, a2_58]))]] rfl (by decide +kernel) rfl ?_
      refine xr_st (st' := [.long x_426.1]) rfl ?_
      refine xr_pop2L (n := 887) C dL_law_886 rfl ?_
      refine xr_aload_n (n := 888) (j := 2) C dL_law_887 rfl rfl ?_
      obtain ⟨x_430, hx_430, ho_58⟩ := yf_b ho_58
      obtain ⟨g_431, ho_58⟩ := yf_g ho_58
      refine xr_callVP (n := 891) (As := []) (rest := []) C (kgX9w_digest l D cy (g := q_29) (a := a0_58) (ad := a1_58) (sh := s_58.2.1) (n := s_58.2.2.1) (L := s_58.2.2.2.1) (k := s_58.2.2.2.2.1) (G := s_58.2.2.2.2.2.1) hx_430) mX9_digest u_1588 u_1589 u_1590 0 rfl (MW_head _ _ _ _ _ _ _ _ _) rfl 3 [0] [1, 2] rfl (by decide +kernel) rfl rfl rfl rfl (Nat.le_of_ble_eq_true rfl) (Nat.le_of_ble_eq_true rfl) (Nat.le_of_ble_eq_true rfl) g_431.1 g_431.2 dL_law_888 rfl (fun v_432 u_433 hp_434 => ?_)
      obtain ⟨q_435, q_436, rfl, rfl⟩ := hp_434
      refine xr_perm C 3 [0, 1, 2] [] [MW q_29 q_435 q_436 cy x_430.2.1 x_430.2.2.1 x_430.2.2.2.1 x_430.2.2.2.2.1 x_430.2.2.2.2.2, CW q_1 z_28 cy x_426.2.1 x_426.2.2, [(q_53, .inr (9, [.long s_58.2.2.2.2.2.2.2.2.1, a2_58]))]] rfl (by decide +kernel) rfl ?_
      refine xr_st (st' := [.long x_430.1]) rfl ?_
      refine xr_pop2L (n := 892) C dL_law_891 rfl ?_
      refine xr_goto (tgt := 895) C dL_law_892 rfl ?_
      refine xr_iinc (j := 4) (v := s_58.1 + 4) (n := 898) C [(4, .int (s_58.1 + 4)), (0, .ref b), (1, .ref q_1), (2, .ref q_29), (3, .ref q_53)] dL_law_895 rfl rfl (by decide) rfl rfl ?_
      refine xr_goto (tgt := 27) C dL_law_898 rfl ?_
      refine xr_lv (lv' := [(0, .ref b), (1, .ref q_1), (2, .ref q_29), (3, .ref q_53), (4, .int (s_58.1 + 4))]) [1, 2, 3, 4, 0] rfl ?_
      exact hk_58 (s_58.1 + 4, x_430.2.1, x_430.2.2.1, x_430.2.2.2.1, x_430.2.2.2.2.1, x_430.2.2.2.2.2, x_426.2.1, x_426.2.2, s_58.2.2.2.2.2.2.2.2.1, s_58.2.2.2.2.2.2.2.2.2.1 + 300, s_58.2.2.2.2.2.2.2.2.2.2 + 600) (Option.some.inj ho_58).symm q_435 q_436 a2_58
    replace ho_58 := yf_f c_425 ho_58
    refine xr_tableOut (tgt := 895) C dL_law_43 (ytab_out (fun k h1 h2 => by
      rcases (show k = 0 ∨ k = 1 ∨ k = 2 ∨ k = 3 ∨ k = 4 ∨ k = 5 ∨ k = 6 ∨ k = 7 ∨ k = 8 ∨ k = 9 ∨ k = 10 ∨ k = 11 ∨ k = 12 ∨ k = 13 ∨ k = 14 ∨ k = 15 ∨ k = 16 ∨ k = 17 ∨ k = 18 ∨ k = 19 ∨ k = 20 by omega) with rfl | rfl | rfl | rfl | rfl | rfl | rfl | rfl | rfl | rfl | rfl | rfl | rfl | rfl | rfl | rfl | rfl | rfl | rfl | rfl | rfl
      · exact c_64
      · exact c_84
      · exact c_103
      · exact c_122
      · exact c_137
      · exact c_178
      · exact c_207
      · exact c_221
      · exact c_235
      · exact c_251
      · exact c_270
      · exact c_283
      · exact c_298
      · exact c_317
      · exact c_334
      · exact c_351
      · exact c_368
      · exact c_385
      · exact c_401
      · exact c_413
      · exact c_425)) rfl ?_
    refine xr_iinc (j := 4) (v := s_58.1 + 4) (n := 898) C [(4, .int (s_58.1 + 4)), (0, .ref b), (1, .ref q_1), (2, .ref q_29), (3, .ref q_53)] dL_law_895 rfl rfl (by decide) rfl rfl ?_
    refine xr_goto (tgt := 27) C dL_law_898 rfl ?_
    refine xr_lv (lv' := [(0, .ref b), (1, .ref q_1), (2, .ref q_29), (3, .ref q_53), (4, .int (s_58.1 + 4))]) [1, 2, 3, 4, 0] rfl ?_
    exact hk_58 (s_58.1 + 4, s_58.2.1, s_58.2.2.1, s_58.2.2.2.1, s_58.2.2.2.2.1, s_58.2.2.2.2.2.1, s_58.2.2.2.2.2.2.1, s_58.2.2.2.2.2.2.2.1, s_58.2.2.2.2.2.2.2.2.1, s_58.2.2.2.2.2.2.2.2.2.1, s_58.2.2.2.2.2.2.2.2.2.2) (Option.some.inj ho_58).symm a0_58 a1_58 a2_58
