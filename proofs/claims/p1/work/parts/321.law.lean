theorem u_84 : Cond.classLink RL 8 RX6 ∈ yU := yu_tables_1_1 28 (by decide +kernel) (by decide +kernel)
theorem u_85 : Cond.instantiable RX6 6 ∈ yU := yu_tables_1_1 29 (by decide +kernel) (by decide +kernel)
theorem u_86 : Cond.methodLink RL 86 yX6_init ∈ yU := yu_tables_1_1 30 (by decide +kernel) (by decide +kernel)
theorem u_87 : Cond.instanceMethod yX6_init ∈ yU := yu_tables_1_1 31 (by decide +kernel) (by decide +kernel)
theorem u_1188 : Cond.classLink RL 87 RX9 ∈ yU := yu_tables_1_5 172 (by decide +kernel) (by decide +kernel)
theorem u_1189 : Cond.instantiable RX9 17 ∈ yU := yu_tables_1_5 173 (by decide +kernel) (by decide +kernel)
theorem u_1190 : Cond.methodLink RL 89 yX9_init ∈ yU := yu_tables_1_5 174 (by decide +kernel) (by decide +kernel)
theorem u_1191 : Cond.instanceMethod yX9_init ∈ yU := yu_tables_1_5 175 (by decide +kernel) (by decide +kernel)
theorem u_550 : Cond.classLink RL 14 RX7 ∈ yU := yu_tables_1_3 14 (by decide +kernel) (by decide +kernel)
theorem u_551 : Cond.instantiable RX7 2 ∈ yU := yu_tables_1_3 15 (by decide +kernel) (by decide +kernel)
theorem u_553 : Cond.instanceMethod yX7_init ∈ yU := yu_tables_1_3 17 (by decide +kernel) (by decide +kernel)
theorem u_563 : Cond.methodLink RL 91 yL_shape ∈ yU := yu_tables_1_3 27 (by decide +kernel) (by decide +kernel)
theorem u_564 : Cond.static yL_shape ∈ yU := yu_tables_1_3 28 (by decide +kernel) (by decide +kernel)
theorem u_1294 : Cond.methodLink RL 96 yX9_shape ∈ yU := yu_tables_1_6 38 (by decide +kernel) (by decide +kernel)
theorem u_1295 : Cond.instanceMethod yX9_shape ∈ yU := yu_tables_1_6 39 (by decide +kernel) (by decide +kernel)
theorem u_1296 : Cond.selects RX9 yX9_shape yX9_shape ∈ yU := yu_tables_1_6 40 (by decide +kernel) (by decide +kernel)
theorem u_1290 : Cond.methodLink RL 97 yX9_thrown ∈ yU := yu_tables_1_6 34 (by decide +kernel) (by decide +kernel)
theorem u_1291 : Cond.instanceMethod yX9_thrown ∈ yU := yu_tables_1_6 35 (by decide +kernel) (by decide +kernel)
theorem u_1292 : Cond.selects RX9 yX9_thrown yX9_thrown ∈ yU := yu_tables_1_6 36 (by decide +kernel) (by decide +kernel)
theorem u_651 : Cond.methodLink RL 100 yL_left ∈ yU := yu_tables_1_3 115 (by decide +kernel) (by decide +kernel)
theorem u_652 : Cond.static yL_left ∈ yU := yu_tables_1_3 116 (by decide +kernel) (by decide +kernel)
theorem u_1315 : Cond.methodLink RL 102 yX9_left ∈ yU := yu_tables_1_6 59 (by decide +kernel) (by decide +kernel)
theorem u_1316 : Cond.instanceMethod yX9_left ∈ yU := yu_tables_1_6 60 (by decide +kernel) (by decide +kernel)
theorem u_1317 : Cond.selects RX9 yX9_left yX9_left ∈ yU := yu_tables_1_6 61 (by decide +kernel) (by decide +kernel)
theorem u_683 : Cond.methodLink RL 103 yL_top ∈ yU := yu_tables_1_3 147 (by decide +kernel) (by decide +kernel)
theorem u_684 : Cond.static yL_top ∈ yU := yu_tables_1_3 148 (by decide +kernel) (by decide +kernel)
theorem u_1319 : Cond.methodLink RL 105 yX9_top ∈ yU := yu_tables_1_6 63 (by decide +kernel) (by decide +kernel)
theorem u_1320 : Cond.instanceMethod yX9_top ∈ yU := yu_tables_1_6 64 (by decide +kernel) (by decide +kernel)
theorem u_1321 : Cond.selects RX9 yX9_top yX9_top ∈ yU := yu_tables_1_6 65 (by decide +kernel) (by decide +kernel)
theorem u_691 : Cond.methodLink RL 106 yL_kind ∈ yU := yu_tables_1_3 155 (by decide +kernel) (by decide +kernel)
theorem u_692 : Cond.static yL_kind ∈ yU := yu_tables_1_3 156 (by decide +kernel) (by decide +kernel)
theorem u_1323 : Cond.methodLink RL 109 yX9_kind ∈ yU := yu_tables_1_6 67 (by decide +kernel) (by decide +kernel)
theorem u_1324 : Cond.instanceMethod yX9_kind ∈ yU := yu_tables_1_6 68 (by decide +kernel) (by decide +kernel)
theorem u_1325 : Cond.selects RX9 yX9_kind yX9_kind ∈ yU := yu_tables_1_6 69 (by decide +kernel) (by decide +kernel)
theorem u_699 : Cond.methodLink RL 110 yL_checked ∈ yU := yu_tables_1_3 163 (by decide +kernel) (by decide +kernel)
theorem u_700 : Cond.static yL_checked ∈ yU := yu_tables_1_3 164 (by decide +kernel) (by decide +kernel)
theorem u_1327 : Cond.methodLink RL 113 yX9_checked ∈ yU := yu_tables_1_6 71 (by decide +kernel) (by decide +kernel)
theorem u_1328 : Cond.instanceMethod yX9_checked ∈ yU := yu_tables_1_6 72 (by decide +kernel) (by decide +kernel)
theorem u_1329 : Cond.selects RX9 yX9_checked yX9_checked ∈ yU := yu_tables_1_6 73 (by decide +kernel) (by decide +kernel)
theorem u_723 : Cond.methodLink RL 114 yL_broken ∈ yU := yu_tables_1_3 187 (by decide +kernel) (by decide +kernel)
theorem u_724 : Cond.static yL_broken ∈ yU := yu_tables_1_3 188 (by decide +kernel) (by decide +kernel)
theorem u_1331 : Cond.methodLink RL 117 yX9_broken ∈ yU := yu_tables_1_6 75 (by decide +kernel) (by decide +kernel)
theorem u_1332 : Cond.instanceMethod yX9_broken ∈ yU := yu_tables_1_6 76 (by decide +kernel) (by decide +kernel)
theorem u_1333 : Cond.selects RX9 yX9_broken yX9_broken ∈ yU := yu_tables_1_6 77 (by decide +kernel) (by decide +kernel)
theorem u_738 : Cond.methodLink RL 118 yL_test ∈ yU := yu_tables_1_3 202 (by decide +kernel) (by decide +kernel)
theorem u_739 : Cond.static yL_test ∈ yU := yu_tables_1_3 203 (by decide +kernel) (by decide +kernel)
theorem u_1342 : Cond.methodLink RL 121 yX9_test ∈ yU := yu_tables_1_6 86 (by decide +kernel) (by decide +kernel)
theorem u_1343 : Cond.instanceMethod yX9_test ∈ yU := yu_tables_1_6 87 (by decide +kernel) (by decide +kernel)
theorem u_1344 : Cond.selects RX9 yX9_test yX9_test ∈ yU := yu_tables_1_6 88 (by decide +kernel) (by decide +kernel)
theorem u_751 : Cond.methodLink RL 122 yL_start ∈ yU := yu_tables_1_3 215 (by decide +kernel) (by decide +kernel)
theorem u_752 : Cond.static yL_start ∈ yU := yu_tables_1_3 216 (by decide +kernel) (by decide +kernel)
theorem u_1351 : Cond.methodLink RL 124 yX9_start_ ∈ yU := yu_tables_1_6 95 (by decide +kernel) (by decide +kernel)
theorem u_1352 : Cond.instanceMethod yX9_start_ ∈ yU := yu_tables_1_6 96 (by decide +kernel) (by decide +kernel)
theorem u_1353 : Cond.selects RX9 yX9_start_ yX9_start_ ∈ yU := yu_tables_1_6 97 (by decide +kernel) (by decide +kernel)
theorem u_787 : Cond.methodLink RL 125 yL_beat ∈ yU := yu_tables_1_4 11 (by decide +kernel) (by decide +kernel)
theorem u_788 : Cond.static yL_beat ∈ yU := yu_tables_1_4 12 (by decide +kernel) (by decide +kernel)
theorem u_1434 : Cond.methodLink RL 127 yX9_beat ∈ yU := yu_tables_1_6 178 (by decide +kernel) (by decide +kernel)
theorem u_1435 : Cond.instanceMethod yX9_beat ∈ yU := yu_tables_1_6 179 (by decide +kernel) (by decide +kernel)
theorem u_1436 : Cond.selects RX9 yX9_beat yX9_beat ∈ yU := yu_tables_1_6 180 (by decide +kernel) (by decide +kernel)
theorem u_829 : Cond.methodLink RL 128 yL_bend ∈ yU := yu_tables_1_4 53 (by decide +kernel) (by decide +kernel)
theorem u_830 : Cond.static yL_bend ∈ yU := yu_tables_1_4 54 (by decide +kernel) (by decide +kernel)
theorem u_1484 : Cond.methodLink RL 130 yX9_bend ∈ yU := yu_tables_1_6 228 (by decide +kernel) (by decide +kernel)
theorem u_1485 : Cond.instanceMethod yX9_bend ∈ yU := yu_tables_1_6 229 (by decide +kernel) (by decide +kernel)
theorem u_1486 : Cond.selects RX9 yX9_bend yX9_bend ∈ yU := yu_tables_1_6 230 (by decide +kernel) (by decide +kernel)
theorem u_842 : Cond.methodLink RL 131 yL_check ∈ yU := yu_tables_1_4 66 (by decide +kernel) (by decide +kernel)
theorem u_843 : Cond.static yL_check ∈ yU := yu_tables_1_4 67 (by decide +kernel) (by decide +kernel)
theorem u_1492 : Cond.methodLink RL 133 yX9_check ∈ yU := yu_tables_1_6 236 (by decide +kernel) (by decide +kernel)
theorem u_1493 : Cond.instanceMethod yX9_check ∈ yU := yu_tables_1_6 237 (by decide +kernel) (by decide +kernel)
theorem u_1494 : Cond.selects RX9 yX9_check yX9_check ∈ yU := yu_tables_1_6 238 (by decide +kernel) (by decide +kernel)
theorem u_868 : Cond.methodLink RL 134 yL_mesh ∈ yU := yu_tables_1_4 92 (by decide +kernel) (by decide +kernel)
theorem u_869 : Cond.static yL_mesh ∈ yU := yu_tables_1_4 93 (by decide +kernel) (by decide +kernel)
theorem u_1508 : Cond.methodLink RL 136 yX9_mesh ∈ yU := yu_tables_1_7 12 (by decide +kernel) (by decide +kernel)
theorem u_1509 : Cond.instanceMethod yX9_mesh ∈ yU := yu_tables_1_7 13 (by decide +kernel) (by decide +kernel)
theorem u_1510 : Cond.selects RX9 yX9_mesh yX9_mesh ∈ yU := yu_tables_1_7 14 (by decide +kernel) (by decide +kernel)
theorem u_876 : Cond.methodLink RL 137 yL_ofCell ∈ yU := yu_tables_1_4 100 (by decide +kernel) (by decide +kernel)
theorem u_877 : Cond.static yL_ofCell ∈ yU := yu_tables_1_4 101 (by decide +kernel) (by decide +kernel)
theorem u_1516 : Cond.methodLink RL 139 yX9_ofCell ∈ yU := yu_tables_1_7 20 (by decide +kernel) (by decide +kernel)
theorem u_1517 : Cond.instanceMethod yX9_ofCell ∈ yU := yu_tables_1_7 21 (by decide +kernel) (by decide +kernel)
theorem u_1518 : Cond.selects RX9 yX9_ofCell yX9_ofCell ∈ yU := yu_tables_1_7 22 (by decide +kernel) (by decide +kernel)
theorem u_884 : Cond.methodLink RL 140 yL_result ∈ yU := yu_tables_1_4 108 (by decide +kernel) (by decide +kernel)
theorem u_885 : Cond.static yL_result ∈ yU := yu_tables_1_4 109 (by decide +kernel) (by decide +kernel)
theorem u_1531 : Cond.methodLink RL 143 yX9_result ∈ yU := yu_tables_1_7 35 (by decide +kernel) (by decide +kernel)
theorem u_1532 : Cond.instanceMethod yX9_result ∈ yU := yu_tables_1_7 36 (by decide +kernel) (by decide +kernel)
theorem u_1533 : Cond.selects RX9 yX9_result yX9_result ∈ yU := yu_tables_1_7 37 (by decide +kernel) (by decide +kernel)
theorem u_891 : Cond.methodLink RL 144 yL_plain ∈ yU := yu_tables_1_4 115 (by decide +kernel) (by decide +kernel)
theorem u_892 : Cond.static yL_plain ∈ yU := yu_tables_1_4 116 (by decide +kernel) (by decide +kernel)
theorem u_1535 : Cond.methodLink RL 146 yX9_plain ∈ yU := yu_tables_1_7 39 (by decide +kernel) (by decide +kernel)
theorem u_1536 : Cond.instanceMethod yX9_plain ∈ yU := yu_tables_1_7 40 (by decide +kernel) (by decide +kernel)
theorem u_1537 : Cond.selects RX9 yX9_plain yX9_plain ∈ yU := yu_tables_1_7 41 (by decide +kernel) (by decide +kernel)
theorem u_899 : Cond.methodLink RL 147 yL_row ∈ yU := yu_tables_1_4 123 (by decide +kernel) (by decide +kernel)
theorem u_900 : Cond.static yL_row ∈ yU := yu_tables_1_4 124 (by decide +kernel) (by decide +kernel)
theorem u_1547 : Cond.methodLink RL 149 yX9_row ∈ yU := yu_tables_1_7 51 (by decide +kernel) (by decide +kernel)
theorem u_1548 : Cond.instanceMethod yX9_row ∈ yU := yu_tables_1_7 52 (by decide +kernel) (by decide +kernel)
theorem u_1549 : Cond.selects RX9 yX9_row yX9_row ∈ yU := yu_tables_1_7 53 (by decide +kernel) (by decide +kernel)
theorem u_1597 : Cond.methodLink RL 150 yJ0_equals_9ea2d ∈ yU := yu_tables_1_7 101 (by decide +kernel) (by decide +kernel)
theorem u_1598 : Cond.instanceMethod yJ0_equals_9ea2d ∈ yU := yu_tables_1_7 102 (by decide +kernel) (by decide +kernel)
theorem u_1599 : Cond.selects RJ0 yJ0_equals_9ea2d yJ0_equals_9ea2d ∈ yU := yu_tables_1_7 103 (by decide +kernel) (by decide +kernel)
theorem u_1172 : Cond.methodLink RL 156 yL_beats ∈ yU := yu_tables_1_5 156 (by decide +kernel) (by decide +kernel)
theorem u_1173 : Cond.static yL_beats ∈ yU := yu_tables_1_5 157 (by decide +kernel) (by decide +kernel)
theorem u_1556 : Cond.methodLink RL 158 yX9_beats ∈ yU := yu_tables_1_7 60 (by decide +kernel) (by decide +kernel)
theorem u_1557 : Cond.instanceMethod yX9_beats ∈ yU := yu_tables_1_7 61 (by decide +kernel) (by decide +kernel)
theorem u_1558 : Cond.selects RX9 yX9_beats yX9_beats ∈ yU := yu_tables_1_7 62 (by decide +kernel) (by decide +kernel)
theorem u_1180 : Cond.methodLink RL 159 yL_best ∈ yU := yu_tables_1_5 164 (by decide +kernel) (by decide +kernel)
theorem u_1181 : Cond.static yL_best ∈ yU := yu_tables_1_5 165 (by decide +kernel) (by decide +kernel)
theorem u_1560 : Cond.methodLink RL 161 yX9_best ∈ yU := yu_tables_1_7 64 (by decide +kernel) (by decide +kernel)
theorem u_1561 : Cond.instanceMethod yX9_best ∈ yU := yu_tables_1_7 65 (by decide +kernel) (by decide +kernel)
theorem u_1562 : Cond.selects RX9 yX9_best yX9_best ∈ yU := yu_tables_1_7 66 (by decide +kernel) (by decide +kernel)
theorem u_308 : Cond.methodLink RL 162 yX6_saved ∈ yU := yu_tables_1_2 12 (by decide +kernel) (by decide +kernel)
theorem u_309 : Cond.instanceMethod yX6_saved ∈ yU := yu_tables_1_2 13 (by decide +kernel) (by decide +kernel)
theorem u_310 : Cond.selects RX6 yX6_saved yX6_saved ∈ yU := yu_tables_1_2 14 (by decide +kernel) (by decide +kernel)
theorem u_1568 : Cond.methodLink RL 165 yX9_saved ∈ yU := yu_tables_1_7 72 (by decide +kernel) (by decide +kernel)
theorem u_1569 : Cond.instanceMethod yX9_saved ∈ yU := yu_tables_1_7 73 (by decide +kernel) (by decide +kernel)
theorem u_1570 : Cond.selects RX9 yX9_saved yX9_saved ∈ yU := yu_tables_1_7 74 (by decide +kernel) (by decide +kernel)
theorem u_391 : Cond.methodLink RL 166 yX6_isSound ∈ yU := yu_tables_1_2 95 (by decide +kernel) (by decide +kernel)
theorem u_392 : Cond.instanceMethod yX6_isSound ∈ yU := yu_tables_1_2 96 (by decide +kernel) (by decide +kernel)
theorem u_393 : Cond.selects RX6 yX6_isSound yX6_isSound ∈ yU := yu_tables_1_2 97 (by decide +kernel) (by decide +kernel)
theorem u_1576 : Cond.methodLink RL 170 yX9_isSound ∈ yU := yu_tables_1_7 80 (by decide +kernel) (by decide +kernel)
theorem u_1577 : Cond.instanceMethod yX9_isSound ∈ yU := yu_tables_1_7 81 (by decide +kernel) (by decide +kernel)
theorem u_1578 : Cond.selects RX9 yX9_isSound yX9_isSound ∈ yU := yu_tables_1_7 82 (by decide +kernel) (by decide +kernel)
theorem u_456 : Cond.methodLink RL 171 yX6_digest ∈ yU := yu_tables_1_2 160 (by decide +kernel) (by decide +kernel)
theorem u_457 : Cond.instanceMethod yX6_digest ∈ yU := yu_tables_1_2 161 (by decide +kernel) (by decide +kernel)
theorem u_458 : Cond.selects RX6 yX6_digest yX6_digest ∈ yU := yu_tables_1_2 162 (by decide +kernel) (by decide +kernel)
theorem u_1588 : Cond.methodLink RL 175 yX9_digest ∈ yU := yu_tables_1_7 92 (by decide +kernel) (by decide +kernel)
theorem u_1589 : Cond.instanceMethod yX9_digest ∈ yU := yu_tables_1_7 93 (by decide +kernel) (by decide +kernel)
theorem u_1590 : Cond.selects RX9 yX9_digest yX9_digest ∈ yU := yu_tables_1_7 94 (by decide +kernel) (by decide +kernel)
theorem dL_law_43 : decode cL_law 43 = .ok (.tableswitch 1347 0 20 #[97, 178, 259, 340, 397, 477, 574, 619, 664, 721, 802, 847, 904, 985, 1054, 1123, 1181, 1250, 1307, 1320, 1333], 97) := by decide +kernel
theorem dd_L_law_0 : dk_R cL_law [(0, .new 8, 3), (3, .dup, 1), (4, .invokespecial 86, 3), (7, .astore_n 1, 1), (8, .new 87, 3), (11, .dup, 1), (12, .invokespecial 89, 3), (15, .astore_n 2, 1), (16, .new 14, 3), (19, .dup, 1), (20, .invokespecial 90, 3), (23, .astore_n 3, 1), (24, .iconst 0, 1), (25, .istore 4, 2), (27, .iload 4, 2), (29, .aload_n 0, 1)] := dk_use _ _ (by decide +kernel)
theorem dd_L_law_1 : dk_R cL_law [(30, .arraylength, 1), (31, .iconst 4, 1), (32, .isub, 1), (33, .if_icmp .gt 1363, 3), (36, .aload_n 0, 1), (37, .iload 4, 2), (39, .iaload, 1), (40, .bipush 31, 2), (42, .iand, 1), (140, .aload_n 1, 1), (141, .aload_n 0, 1), (142, .iload 4, 2), (144, .iconst 1, 1), (145, .iadd, 1), (146, .iaload, 1), (147, .aload_n 0, 1)] := dk_use _ _ (by decide +kernel)
theorem dd_L_law_2 : dk_R cL_law [(148, .iload 4, 2), (150, .iconst 2, 1), (151, .iadd, 1), (152, .iaload, 1), (153, .aload_n 0, 1), (154, .iload 4, 2), (156, .iconst 3, 1), (157, .iadd, 1), (158, .iaload, 1), (159, .aload_n 3, 1), (160, .invokestatic 91, 3), (163, .istore 5, 2), (165, .aload_n 2, 1), (166, .aload_n 0, 1), (167, .iload 4, 2), (169, .iconst 1, 1)] := dk_use _ _ (by decide +kernel)
theorem dd_L_law_3 : dk_R cL_law [(170, .iadd, 1), (171, .iaload, 1), (172, .aload_n 0, 1), (173, .iload 4, 2), (175, .iconst 2, 1), (176, .iadd, 1), (177, .iaload, 1), (178, .aload_n 0, 1), (179, .iload 4, 2), (181, .iconst 3, 1), (182, .iadd, 1), (183, .iaload, 1), (184, .invokevirtual 96, 3), (187, .istore 6, 2), (189, .aload_n 2, 1), (190, .invokevirtual 97, 3)] := dk_use _ _ (by decide +kernel)
theorem dd_L_law_4 : dk_R cL_law [(193, .iload 5, 2), (195, .if_icmp .eq 5, 3), (198, .iconst 0, 1), (199, .ireturn, 1), (200, .iload 5, 2), (202, .ifCond .ne 16, 3), (205, .aload_n 3, 1), (206, .getfield 13, 3), (209, .iload 6, 2), (211, .i2l, 1), (212, .lcmp, 1), (213, .ifCond .eq 5, 3), (216, .iconst 0, 1), (217, .ireturn, 1), (218, .goto 1172, 3), (221, .aload_n 1, 1)] := dk_use _ _ (by decide +kernel)
theorem dd_L_law_5 : dk_R cL_law [(222, .aload_n 0, 1), (223, .iload 4, 2), (225, .iconst 1, 1), (226, .iadd, 1), (227, .iaload, 1), (228, .aload_n 0, 1), (229, .iload 4, 2), (231, .iconst 2, 1), (232, .iadd, 1), (233, .iaload, 1), (234, .aload_n 0, 1), (235, .iload 4, 2), (237, .iconst 3, 1), (238, .iadd, 1), (239, .iaload, 1), (240, .aload_n 3, 1)] := dk_use _ _ (by decide +kernel)
theorem dd_L_law_6 : dk_R cL_law [(241, .invokestatic 100, 3), (244, .istore 5, 2), (246, .aload_n 2, 1), (247, .aload_n 0, 1), (248, .iload 4, 2), (250, .iconst 1, 1), (251, .iadd, 1), (252, .iaload, 1), (253, .aload_n 0, 1), (254, .iload 4, 2), (256, .iconst 2, 1), (257, .iadd, 1), (258, .iaload, 1), (259, .aload_n 0, 1), (260, .iload 4, 2), (262, .iconst 3, 1)] := dk_use _ _ (by decide +kernel)
theorem dd_L_law_7 : dk_R cL_law [(263, .iadd, 1), (264, .iaload, 1), (265, .invokevirtual 102, 3), (268, .istore 6, 2), (270, .aload_n 2, 1), (271, .invokevirtual 97, 3), (274, .iload 5, 2), (276, .if_icmp .eq 5, 3), (279, .iconst 0, 1), (280, .ireturn, 1), (281, .iload 5, 2), (283, .ifCond .ne 16, 3), (286, .aload_n 3, 1), (287, .getfield 13, 3), (290, .iload 6, 2), (292, .i2l, 1)] := dk_use _ _ (by decide +kernel)
theorem dd_L_law_8 : dk_R cL_law [(293, .lcmp, 1), (294, .ifCond .eq 5, 3), (297, .iconst 0, 1), (298, .ireturn, 1), (299, .goto 1091, 3), (302, .aload_n 1, 1), (303, .aload_n 0, 1), (304, .iload 4, 2), (306, .iconst 1, 1), (307, .iadd, 1), (308, .iaload, 1), (309, .aload_n 0, 1), (310, .iload 4, 2), (312, .iconst 2, 1), (313, .iadd, 1), (314, .iaload, 1)] := dk_use _ _ (by decide +kernel)
theorem dd_L_law_9 : dk_R cL_law [(315, .aload_n 0, 1), (316, .iload 4, 2), (318, .iconst 3, 1), (319, .iadd, 1), (320, .iaload, 1), (321, .aload_n 3, 1), (322, .invokestatic 103, 3), (325, .istore 5, 2), (327, .aload_n 2, 1), (328, .aload_n 0, 1), (329, .iload 4, 2), (331, .iconst 1, 1), (332, .iadd, 1), (333, .iaload, 1), (334, .aload_n 0, 1), (335, .iload 4, 2)] := dk_use _ _ (by decide +kernel)
theorem dd_L_law_10 : dk_R cL_law [(337, .iconst 2, 1), (338, .iadd, 1), (339, .iaload, 1), (340, .aload_n 0, 1), (341, .iload 4, 2), (343, .iconst 3, 1), (344, .iadd, 1), (345, .iaload, 1), (346, .invokevirtual 105, 3), (349, .istore 6, 2), (351, .aload_n 2, 1), (352, .invokevirtual 97, 3), (355, .iload 5, 2), (357, .if_icmp .eq 5, 3), (360, .iconst 0, 1), (361, .ireturn, 1)] := dk_use _ _ (by decide +kernel)
theorem dd_L_law_11 : dk_R cL_law [(362, .iload 5, 2), (364, .ifCond .ne 16, 3), (367, .aload_n 3, 1), (368, .getfield 13, 3), (371, .iload 6, 2), (373, .i2l, 1), (374, .lcmp, 1), (375, .ifCond .eq 5, 3), (378, .iconst 0, 1), (379, .ireturn, 1), (380, .goto 1010, 3), (383, .aload_n 1, 1), (384, .aload_n 0, 1), (385, .iload 4, 2), (387, .iconst 1, 1), (388, .iadd, 1)] := dk_use _ _ (by decide +kernel)
theorem dd_L_law_12 : dk_R cL_law [(389, .iaload, 1), (390, .aload_n 3, 1), (391, .invokestatic 106, 3), (394, .istore 5, 2), (396, .aload_n 2, 1), (397, .aload_n 0, 1), (398, .iload 4, 2), (400, .iconst 1, 1), (401, .iadd, 1), (402, .iaload, 1), (403, .invokevirtual 109, 3), (406, .istore 6, 2), (408, .aload_n 2, 1), (409, .invokevirtual 97, 3), (412, .iload 5, 2), (414, .if_icmp .eq 5, 3)] := dk_use _ _ (by decide +kernel)
theorem dd_L_law_13 : dk_R cL_law [(417, .iconst 0, 1), (418, .ireturn, 1), (419, .iload 5, 2), (421, .ifCond .ne 16, 3), (424, .aload_n 3, 1), (425, .getfield 13, 3), (428, .iload 6, 2), (430, .i2l, 1), (431, .lcmp, 1), (432, .ifCond .eq 5, 3), (435, .iconst 0, 1), (436, .ireturn, 1), (437, .goto 953, 3), (440, .aload_n 1, 1), (441, .aload_n 0, 1), (442, .iload 4, 2)] := dk_use _ _ (by decide +kernel)
theorem dd_L_law_14 : dk_R cL_law [(444, .iconst 1, 1), (445, .iadd, 1), (446, .iaload, 1), (447, .ifCond .eq 7, 3), (450, .iconst 1, 1), (451, .goto 4, 3), (454, .iconst 0, 1), (455, .aload_n 3, 1), (456, .invokestatic 110, 3), (459, .istore 5, 2), (461, .aload_n 2, 1), (462, .aload_n 0, 1), (463, .iload 4, 2), (465, .iconst 1, 1), (466, .iadd, 1), (467, .iaload, 1)] := dk_use _ _ (by decide +kernel)
theorem dd_L_law_15 : dk_R cL_law [(468, .ifCond .eq 7, 3), (471, .iconst 1, 1), (472, .goto 4, 3), (475, .iconst 0, 1), (476, .invokevirtual 113, 3), (479, .istore 6, 2), (481, .aload_n 2, 1), (482, .invokevirtual 97, 3), (485, .iload 5, 2), (487, .if_icmp .eq 5, 3), (490, .iconst 0, 1), (491, .ireturn, 1), (492, .iload 5, 2), (494, .ifCond .ne 23, 3), (497, .aload_n 3, 1), (498, .getfield 13, 3)] := dk_use _ _ (by decide +kernel)
theorem dd_L_law_16 : dk_R cL_law [(501, .iload 6, 2), (503, .ifCond .eq 7, 3), (506, .lconst 1, 1), (507, .goto 4, 3), (510, .lconst 0, 1), (511, .lcmp, 1), (512, .ifCond .eq 5, 3), (515, .iconst 0, 1), (516, .ireturn, 1), (517, .goto 873, 3), (520, .aload_n 1, 1), (521, .aload_n 0, 1), (522, .iload 4, 2), (524, .iconst 1, 1), (525, .iadd, 1), (526, .iaload, 1)] := dk_use _ _ (by decide +kernel)
theorem dd_L_law_17 : dk_R cL_law [(527, .aload_n 0, 1), (528, .iload 4, 2), (530, .iconst 2, 1), (531, .iadd, 1), (532, .iaload, 1), (533, .aload_n 0, 1), (534, .iload 4, 2), (536, .iconst 3, 1), (537, .iadd, 1), (538, .iaload, 1), (539, .ifCond .eq 7, 3), (542, .iconst 1, 1), (543, .goto 4, 3), (546, .iconst 0, 1), (547, .aload_n 3, 1), (548, .invokestatic 114, 3)] := dk_use _ _ (by decide +kernel)
theorem dd_L_law_18 : dk_R cL_law [(551, .istore 5, 2), (553, .aload_n 2, 1), (554, .aload_n 0, 1), (555, .iload 4, 2), (557, .iconst 1, 1), (558, .iadd, 1), (559, .iaload, 1), (560, .aload_n 0, 1), (561, .iload 4, 2), (563, .iconst 2, 1), (564, .iadd, 1), (565, .iaload, 1), (566, .aload_n 0, 1), (567, .iload 4, 2), (569, .iconst 3, 1), (570, .iadd, 1)] := dk_use _ _ (by decide +kernel)
theorem dd_L_law_19 : dk_R cL_law [(571, .iaload, 1), (572, .ifCond .eq 7, 3), (575, .iconst 1, 1), (576, .goto 4, 3), (579, .iconst 0, 1), (580, .invokevirtual 117, 3), (583, .istore 6, 2), (585, .aload_n 2, 1), (586, .invokevirtual 97, 3), (589, .iload 5, 2), (591, .if_icmp .eq 5, 3), (594, .iconst 0, 1), (595, .ireturn, 1), (596, .iload 5, 2), (598, .ifCond .ne 16, 3), (601, .aload_n 3, 1)] := dk_use _ _ (by decide +kernel)
theorem dd_L_law_20 : dk_R cL_law [(602, .getfield 13, 3), (605, .iload 6, 2), (607, .i2l, 1), (608, .lcmp, 1), (609, .ifCond .eq 5, 3), (612, .iconst 0, 1), (613, .ireturn, 1), (614, .goto 776, 3), (617, .aload_n 1, 1), (618, .aload_n 3, 1), (619, .invokestatic 118, 3), (622, .istore 5, 2), (624, .aload_n 2, 1), (625, .invokevirtual 121, 3), (628, .istore 6, 2), (630, .aload_n 2, 1)] := dk_use _ _ (by decide +kernel)
theorem dd_L_law_21 : dk_R cL_law [(631, .invokevirtual 97, 3), (634, .iload 5, 2), (636, .if_icmp .eq 5, 3), (639, .iconst 0, 1), (640, .ireturn, 1), (641, .iload 5, 2), (643, .ifCond .ne 16, 3), (646, .aload_n 3, 1), (647, .getfield 13, 3), (650, .iload 6, 2), (652, .i2l, 1), (653, .lcmp, 1), (654, .ifCond .eq 5, 3), (657, .iconst 0, 1), (658, .ireturn, 1), (659, .goto 731, 3)] := dk_use _ _ (by decide +kernel)
theorem dd_L_law_22 : dk_R cL_law [(662, .aload_n 1, 1), (663, .aload_n 3, 1), (664, .invokestatic 122, 3), (667, .istore 5, 2), (669, .aload_n 2, 1), (670, .invokevirtual 124, 3), (673, .istore 6, 2), (675, .aload_n 2, 1), (676, .invokevirtual 97, 3), (679, .iload 5, 2), (681, .if_icmp .eq 5, 3), (684, .iconst 0, 1), (685, .ireturn, 1), (686, .iload 5, 2), (688, .ifCond .ne 16, 3), (691, .aload_n 3, 1)] := dk_use _ _ (by decide +kernel)
theorem dd_L_law_23 : dk_R cL_law [(692, .getfield 13, 3), (695, .iload 6, 2), (697, .i2l, 1), (698, .lcmp, 1), (699, .ifCond .eq 5, 3), (702, .iconst 0, 1), (703, .ireturn, 1), (704, .goto 686, 3), (707, .aload_n 1, 1), (708, .aload_n 0, 1), (709, .iload 4, 2), (711, .iconst 1, 1), (712, .iadd, 1), (713, .iaload, 1), (714, .aload_n 3, 1), (715, .invokestatic 125, 3)] := dk_use _ _ (by decide +kernel)
theorem dd_L_law_24 : dk_R cL_law [(718, .istore 5, 2), (720, .aload_n 2, 1), (721, .aload_n 0, 1), (722, .iload 4, 2), (724, .iconst 1, 1), (725, .iadd, 1), (726, .iaload, 1), (727, .invokevirtual 127, 3), (730, .istore 6, 2), (732, .aload_n 2, 1), (733, .invokevirtual 97, 3), (736, .iload 5, 2), (738, .if_icmp .eq 5, 3), (741, .iconst 0, 1), (742, .ireturn, 1), (743, .iload 5, 2)] := dk_use _ _ (by decide +kernel)
theorem dd_L_law_25 : dk_R cL_law [(745, .ifCond .ne 16, 3), (748, .aload_n 3, 1), (749, .getfield 13, 3), (752, .iload 6, 2), (754, .i2l, 1), (755, .lcmp, 1), (756, .ifCond .eq 5, 3), (759, .iconst 0, 1), (760, .ireturn, 1), (761, .goto 629, 3), (764, .aload_n 1, 1), (765, .aload_n 0, 1), (766, .iload 4, 2), (768, .iconst 1, 1), (769, .iadd, 1), (770, .iaload, 1)] := dk_use _ _ (by decide +kernel)
theorem dd_L_law_26 : dk_R cL_law [(771, .aload_n 0, 1), (772, .iload 4, 2), (774, .iconst 2, 1), (775, .iadd, 1), (776, .iaload, 1), (777, .aload_n 0, 1), (778, .iload 4, 2), (780, .iconst 3, 1), (781, .iadd, 1), (782, .iaload, 1), (783, .aload_n 3, 1), (784, .invokestatic 128, 3), (787, .istore 5, 2), (789, .aload_n 2, 1), (790, .aload_n 0, 1), (791, .iload 4, 2)] := dk_use _ _ (by decide +kernel)
theorem dd_L_law_27 : dk_R cL_law [(793, .iconst 1, 1), (794, .iadd, 1), (795, .iaload, 1), (796, .aload_n 0, 1), (797, .iload 4, 2), (799, .iconst 2, 1), (800, .iadd, 1), (801, .iaload, 1), (802, .aload_n 0, 1), (803, .iload 4, 2), (805, .iconst 3, 1), (806, .iadd, 1), (807, .iaload, 1), (808, .invokevirtual 130, 3), (811, .istore 6, 2), (813, .aload_n 2, 1)] := dk_use _ _ (by decide +kernel)
theorem dd_L_law_28 : dk_R cL_law [(814, .invokevirtual 97, 3), (817, .iload 5, 2), (819, .if_icmp .eq 5, 3), (822, .iconst 0, 1), (823, .ireturn, 1), (824, .iload 5, 2), (826, .ifCond .ne 16, 3), (829, .aload_n 3, 1), (830, .getfield 13, 3), (833, .iload 6, 2), (835, .i2l, 1), (836, .lcmp, 1), (837, .ifCond .eq 5, 3), (840, .iconst 0, 1), (841, .ireturn, 1), (842, .goto 548, 3)] := dk_use _ _ (by decide +kernel)
theorem dd_L_law_29 : dk_R cL_law [(845, .aload_n 1, 1), (846, .aload_n 3, 1), (847, .invokestatic 131, 3), (850, .istore 5, 2), (852, .aload_n 2, 1), (853, .invokevirtual 133, 3), (856, .istore 6, 2), (858, .aload_n 2, 1), (859, .invokevirtual 97, 3), (862, .iload 5, 2), (864, .if_icmp .eq 5, 3), (867, .iconst 0, 1), (868, .ireturn, 1), (869, .iload 5, 2), (871, .ifCond .ne 16, 3), (874, .aload_n 3, 1)] := dk_use _ _ (by decide +kernel)
theorem dd_L_law_30 : dk_R cL_law [(875, .getfield 13, 3), (878, .iload 6, 2), (880, .i2l, 1), (881, .lcmp, 1), (882, .ifCond .eq 5, 3), (885, .iconst 0, 1), (886, .ireturn, 1), (887, .goto 503, 3), (890, .aload_n 1, 1), (891, .aload_n 0, 1), (892, .iload 4, 2), (894, .iconst 1, 1), (895, .iadd, 1), (896, .iaload, 1), (897, .aload_n 3, 1), (898, .invokestatic 134, 3)] := dk_use _ _ (by decide +kernel)
theorem dd_L_law_31 : dk_R cL_law [(901, .istore 5, 2), (903, .aload_n 2, 1), (904, .aload_n 0, 1), (905, .iload 4, 2), (907, .iconst 1, 1), (908, .iadd, 1), (909, .iaload, 1), (910, .invokevirtual 136, 3), (913, .istore 6, 2), (915, .aload_n 2, 1), (916, .invokevirtual 97, 3), (919, .iload 5, 2), (921, .if_icmp .eq 5, 3), (924, .iconst 0, 1), (925, .ireturn, 1), (926, .iload 5, 2)] := dk_use _ _ (by decide +kernel)
theorem dd_L_law_32 : dk_R cL_law [(928, .ifCond .ne 16, 3), (931, .aload_n 3, 1), (932, .getfield 13, 3), (935, .iload 6, 2), (937, .i2l, 1), (938, .lcmp, 1), (939, .ifCond .eq 5, 3), (942, .iconst 0, 1), (943, .ireturn, 1), (944, .goto 446, 3), (947, .aload_n 1, 1), (948, .aload_n 0, 1), (949, .iload 4, 2), (951, .iconst 1, 1), (952, .iadd, 1), (953, .iaload, 1)] := dk_use _ _ (by decide +kernel)
theorem dd_L_law_33 : dk_R cL_law [(954, .aload_n 0, 1), (955, .iload 4, 2), (957, .iconst 2, 1), (958, .iadd, 1), (959, .iaload, 1), (960, .aload_n 0, 1), (961, .iload 4, 2), (963, .iconst 3, 1), (964, .iadd, 1), (965, .iaload, 1), (966, .aload_n 3, 1), (967, .invokestatic 137, 3), (970, .istore 5, 2), (972, .aload_n 2, 1), (973, .aload_n 0, 1), (974, .iload 4, 2)] := dk_use _ _ (by decide +kernel)
theorem dd_L_law_34 : dk_R cL_law [(976, .iconst 1, 1), (977, .iadd, 1), (978, .iaload, 1), (979, .aload_n 0, 1), (980, .iload 4, 2), (982, .iconst 2, 1), (983, .iadd, 1), (984, .iaload, 1), (985, .aload_n 0, 1), (986, .iload 4, 2), (988, .iconst 3, 1), (989, .iadd, 1), (990, .iaload, 1), (991, .invokevirtual 139, 3), (994, .istore 6, 2), (996, .aload_n 2, 1)] := dk_use _ _ (by decide +kernel)
theorem dd_L_law_35 : dk_R cL_law [(997, .invokevirtual 97, 3), (1000, .iload 5, 2), (1002, .if_icmp .eq 5, 3), (1005, .iconst 0, 1), (1006, .ireturn, 1), (1007, .iload 5, 2), (1009, .ifCond .ne 16, 3), (1012, .aload_n 3, 1), (1013, .getfield 13, 3), (1016, .iload 6, 2), (1018, .i2l, 1), (1019, .lcmp, 1), (1020, .ifCond .eq 5, 3), (1023, .iconst 0, 1), (1024, .ireturn, 1), (1025, .goto 365, 3)] := dk_use _ _ (by decide +kernel)
theorem dd_L_law_36 : dk_R cL_law [(1028, .aload_n 1, 1), (1029, .aload_n 0, 1), (1030, .iload 4, 2), (1032, .iconst 1, 1), (1033, .iadd, 1), (1034, .iaload, 1), (1035, .aload_n 0, 1), (1036, .iload 4, 2), (1038, .iconst 2, 1), (1039, .iadd, 1), (1040, .iaload, 1), (1041, .aload_n 3, 1), (1042, .invokestatic 140, 3), (1045, .istore 5, 2), (1047, .aload_n 2, 1), (1048, .aload_n 0, 1)] := dk_use _ _ (by decide +kernel)
theorem dd_L_law_37 : dk_R cL_law [(1049, .iload 4, 2), (1051, .iconst 1, 1), (1052, .iadd, 1), (1053, .iaload, 1), (1054, .aload_n 0, 1), (1055, .iload 4, 2), (1057, .iconst 2, 1), (1058, .iadd, 1), (1059, .iaload, 1), (1060, .invokevirtual 143, 3), (1063, .istore 6, 2), (1065, .aload_n 2, 1), (1066, .invokevirtual 97, 3), (1069, .iload 5, 2), (1071, .if_icmp .eq 5, 3), (1074, .iconst 0, 1)] := dk_use _ _ (by decide +kernel)
theorem dd_L_law_38 : dk_R cL_law [(1075, .ireturn, 1), (1076, .iload 5, 2), (1078, .ifCond .ne 16, 3), (1081, .aload_n 3, 1), (1082, .getfield 13, 3), (1085, .iload 6, 2), (1087, .i2l, 1), (1088, .lcmp, 1), (1089, .ifCond .eq 5, 3), (1092, .iconst 0, 1), (1093, .ireturn, 1), (1094, .goto 296, 3), (1097, .aload_n 1, 1), (1098, .aload_n 0, 1), (1099, .iload 4, 2), (1101, .iconst 1, 1)] := dk_use _ _ (by decide +kernel)
theorem dd_L_law_39 : dk_R cL_law [(1102, .iadd, 1), (1103, .iaload, 1), (1104, .aload_n 0, 1), (1105, .iload 4, 2), (1107, .iconst 2, 1), (1108, .iadd, 1), (1109, .iaload, 1), (1110, .aload_n 3, 1), (1111, .invokestatic 144, 3), (1114, .istore 5, 2), (1116, .aload_n 2, 1), (1117, .aload_n 0, 1), (1118, .iload 4, 2), (1120, .iconst 1, 1), (1121, .iadd, 1), (1122, .iaload, 1)] := dk_use _ _ (by decide +kernel)
theorem dd_L_law_40 : dk_R cL_law [(1123, .aload_n 0, 1), (1124, .iload 4, 2), (1126, .iconst 2, 1), (1127, .iadd, 1), (1128, .iaload, 1), (1129, .invokevirtual 146, 3), (1132, .istore 6, 2), (1134, .aload_n 2, 1), (1135, .invokevirtual 97, 3), (1138, .iload 5, 2), (1140, .if_icmp .eq 5, 3), (1143, .iconst 0, 1), (1144, .ireturn, 1), (1145, .iload 5, 2), (1147, .ifCond .ne 16, 3), (1150, .aload_n 3, 1)] := dk_use _ _ (by decide +kernel)
theorem dd_L_law_41 : dk_R cL_law [(1151, .getfield 13, 3), (1154, .iload 6, 2), (1156, .i2l, 1), (1157, .lcmp, 1), (1158, .ifCond .eq 5, 3), (1161, .iconst 0, 1), (1162, .ireturn, 1), (1163, .goto 227, 3), (1166, .aload_n 1, 1), (1167, .aload_n 0, 1), (1168, .iload 4, 2), (1170, .iconst 1, 1), (1171, .iadd, 1), (1172, .iaload, 1), (1173, .aload_n 3, 1), (1174, .invokestatic 147, 3)] := dk_use _ _ (by decide +kernel)
theorem dd_L_law_42 : dk_R cL_law [(1177, .istore 5, 2), (1179, .aload_n 2, 1), (1180, .aload_n 0, 1), (1181, .iload 4, 2), (1183, .iconst 1, 1), (1184, .iadd, 1), (1185, .iaload, 1), (1186, .invokevirtual 149, 3), (1189, .astore 6, 2), (1191, .aload_n 2, 1), (1192, .invokevirtual 97, 3), (1195, .iload 5, 2), (1197, .if_icmp .eq 5, 3), (1200, .iconst 0, 1), (1201, .ireturn, 1), (1202, .iload 5, 2)] := dk_use _ _ (by decide +kernel)
theorem dd_L_law_43 : dk_R cL_law [(1204, .ifCond .ne 17, 3), (1207, .aload_n 3, 1), (1208, .getfield 76, 3), (1211, .aload 6, 2), (1213, .invokevirtual 150, 3), (1216, .ifCond .ne 5, 3), (1219, .iconst 0, 1), (1220, .ireturn, 1), (1221, .goto 169, 3), (1224, .aload_n 1, 1), (1225, .aload_n 0, 1), (1226, .iload 4, 2), (1228, .iconst 1, 1), (1229, .iadd, 1), (1230, .iaload, 1), (1231, .aload_n 0, 1)] := dk_use _ _ (by decide +kernel)
theorem dd_L_law_44 : dk_R cL_law [(1232, .iload 4, 2), (1234, .iconst 2, 1), (1235, .iadd, 1), (1236, .iaload, 1), (1237, .aload_n 3, 1), (1238, .invokestatic 156, 3), (1241, .istore 5, 2), (1243, .aload_n 2, 1), (1244, .aload_n 0, 1), (1245, .iload 4, 2), (1247, .iconst 1, 1), (1248, .iadd, 1), (1249, .iaload, 1), (1250, .aload_n 0, 1), (1251, .iload 4, 2), (1253, .iconst 2, 1)] := dk_use _ _ (by decide +kernel)
theorem dd_L_law_45 : dk_R cL_law [(1254, .iadd, 1), (1255, .iaload, 1), (1256, .invokevirtual 158, 3), (1259, .istore 6, 2), (1261, .aload_n 2, 1), (1262, .invokevirtual 97, 3), (1265, .iload 5, 2), (1267, .if_icmp .eq 5, 3), (1270, .iconst 0, 1), (1271, .ireturn, 1), (1272, .iload 5, 2), (1274, .ifCond .ne 16, 3), (1277, .aload_n 3, 1), (1278, .getfield 13, 3), (1281, .iload 6, 2), (1283, .i2l, 1)] := dk_use _ _ (by decide +kernel)
theorem dd_L_law_46 : dk_R cL_law [(1284, .lcmp, 1), (1285, .ifCond .eq 5, 3), (1288, .iconst 0, 1), (1289, .ireturn, 1), (1290, .goto 100, 3), (1293, .aload_n 1, 1), (1294, .aload_n 0, 1), (1295, .iload 4, 2), (1297, .iconst 1, 1), (1298, .iadd, 1), (1299, .iaload, 1), (1300, .aload_n 3, 1), (1301, .invokestatic 159, 3), (1304, .istore 5, 2), (1306, .aload_n 2, 1), (1307, .aload_n 0, 1)] := dk_use _ _ (by decide +kernel)
theorem dd_L_law_47 : dk_R cL_law [(1308, .iload 4, 2), (1310, .iconst 1, 1), (1311, .iadd, 1), (1312, .iaload, 1), (1313, .invokevirtual 161, 3), (1316, .istore 6, 2), (1318, .aload_n 2, 1), (1319, .invokevirtual 97, 3), (1322, .iload 5, 2), (1324, .if_icmp .eq 5, 3), (1327, .iconst 0, 1), (1328, .ireturn, 1), (1329, .iload 5, 2), (1331, .ifCond .ne 16, 3), (1334, .aload_n 3, 1), (1335, .getfield 13, 3)] := dk_use _ _ (by decide +kernel)
theorem dd_L_law_48 : dk_R cL_law [(1338, .iload 6, 2), (1340, .i2l, 1), (1341, .lcmp, 1), (1342, .ifCond .eq 5, 3), (1345, .iconst 0, 1), (1346, .ireturn, 1), (1347, .goto 43, 3), (1350, .aload_n 1, 1), (1351, .invokevirtual 162, 3), (1354, .aload_n 2, 1), (1355, .invokevirtual 165, 3), (1358, .if_icmp .eq 32, 3), (1361, .iconst 0, 1), (1362, .ireturn, 1), (1363, .aload_n 1, 1), (1364, .invokevirtual 166, 3)] := dk_use _ _ (by decide +kernel)
theorem dd_L_law_49 : dk_R cL_law [(1367, .aload_n 2, 1), (1368, .invokevirtual 170, 3), (1371, .if_icmp .eq 19, 3), (1374, .iconst 0, 1), (1375, .ireturn, 1), (1376, .aload_n 1, 1), (1377, .invokevirtual 171, 3), (1380, .aload_n 2, 1), (1381, .invokevirtual 175, 3), (1384, .lcmp, 1), (1385, .ifCond .eq 5, 3), (1388, .iconst 0, 1), (1389, .ireturn, 1), (1390, .iinc 4 4, 3), (1393, .goto (-1366), 3), (1396, .iconst 1, 1)] := dk_use _ _ (by decide +kernel)
theorem dd_L_law_50 : dk_R cL_law [(1397, .ireturn, 1)] := dk_use _ _ (by decide +kernel)
def fL_law (nL : Nat) (xs : Nat → Int32) : Option (Int32) := ((fX6_init).bind fun x_2 => ((fX9_init).bind fun _ => ((fX7_init).bind fun x_54 => ((wl (S := Int32 × Nat × (Nat → Int32) × Int64 × (Nat → Nat) × (Nat → Nat → Nat → Int32) × (Nat → Int32) × (Nat → Nat → Int32) × Int64 × Nat × Nat) (B := (Int32 × Nat × (Nat → Int32) × Int64 × (Nat → Nat) × (Nat → Nat → Nat → Int32) × (Nat → Int32) × (Nat → Nat → Int32) × Int64 × Nat × Nat) ⊕ Int32) (fun s_58 => (if s_58.2.2.2.2.2.2.2.2.2.1 ≤ 600002 ∧ s_58.2.2.2.2.2.2.2.2.2.2 ≤ 7302232 then (if ((nI nL) - 4) < s_58.1 then some (.inr (.inl (s_58.1, s_58.2.1, s_58.2.2.1, s_58.2.2.2.1, s_58.2.2.2.2.1, s_58.2.2.2.2.2.1, s_58.2.2.2.2.2.2.1, s_58.2.2.2.2.2.2.2.1, s_58.2.2.2.2.2.2.2.2.1, s_58.2.2.2.2.2.2.2.2.2.1, s_58.2.2.2.2.2.2.2.2.2.2))) else (if ¬ (s_58.1 < 0 ∨ nL ≤ s_58.1.toNatClampNeg) then (if ((xs s_58.1.toNatClampNeg) &&& 31) = 0 then (if ¬ ((s_58.1 + 1) < 0 ∨ nL ≤ (s_58.1 + 1).toNatClampNeg) then (if ¬ ((s_58.1 + 2) < 0 ∨ nL ≤ (s_58.1 + 2).toNatClampNeg) then (if ¬ ((s_58.1 + 3) < 0 ∨ nL ≤ (s_58.1 + 3).toNatClampNeg) then ((gL_shape s_58.2.2.2.2.2.2.1 s_58.2.2.2.2.2.2.2.1 s_58.2.2.2.2.2.2.2.2.1 (xs (s_58.1 + 1).toNatClampNeg) (xs (s_58.1 + 2).toNatClampNeg) (xs (s_58.1 + 3).toNatClampNeg)).bind fun x_68 => (if s_58.2.2.2.2.2.2.2.2.2.1 + 1 ≤ 600002 ∧ s_58.2.2.2.2.2.2.2.2.2.2 + 6 ≤ 7302232 then (if ¬ ((s_58.1 + 1) < 0 ∨ nL ≤ (s_58.1 + 1).toNatClampNeg) then (if ¬ ((s_58.1 + 2) < 0 ∨ nL ≤ (s_58.1 + 2).toNatClampNeg) then (if ¬ ((s_58.1 + 3) < 0 ∨ nL ≤ (s_58.1 + 3).toNatClampNeg) then ((gX9w_shape s_58.2.1 s_58.2.2.1 s_58.2.2.2.1 s_58.2.2.2.2.1 s_58.2.2.2.2.2.1 (xs (s_58.1 + 1).toNatClampNeg) (xs (s_58.1 + 2).toNatClampNeg) (xs (s_58.1 + 3).toNatClampNeg)).bind fun x_77 => (if s_58.2.2.2.2.2.2.2.2.2.1 + 1 + 20 ≤ 600002 ∧ s_58.2.2.2.2.2.2.2.2.2.2 + 6 + 180 ≤ 7302232 then ((gX9w_thrown x_77.2.1 x_77.2.2.1 x_77.2.2.2.1 x_77.2.2.2.2.1 x_77.2.2.2.2.2).bind fun x_84 => (if x_84.1 = x_68.1 then (if x_68.1 = 0 then (if (lg_cmp x_68.2.2.2 x_77.1.toInt64) = 0 then some (.inl (s_58.1 + 4, x_84.2.1, x_84.2.2.1, x_84.2.2.2.1, x_84.2.2.2.2.1, x_84.2.2.2.2.2, x_68.2.1, x_68.2.2.1, x_68.2.2.2, s_58.2.2.2.2.2.2.2.2.2.1 + 1 + 20, s_58.2.2.2.2.2.2.2.2.2.2 + 6 + 180)) else some (.inr (.inr 0))) else some (.inl (s_58.1 + 4, x_84.2.1, x_84.2.2.1, x_84.2.2.2.1, x_84.2.2.2.2.1, x_84.2.2.2.2.2, x_68.2.1, x_68.2.2.1, x_68.2.2.2, s_58.2.2.2.2.2.2.2.2.2.1 + 1 + 20, s_58.2.2.2.2.2.2.2.2.2.2 + 6 + 180))) else some (.inr (.inr 0)))) else none)) else none) else none) else none) else none)) else none) else none) else none) else (if ((xs s_58.1.toNatClampNeg) &&& 31) = 1 then (if ¬ ((s_58.1 + 1) < 0 ∨ nL ≤ (s_58.1 + 1).toNatClampNeg) then (if ¬ ((s_58.1 + 2) < 0 ∨ nL ≤ (s_58.1 + 2).toNatClampNeg) then (if ¬ ((s_58.1 + 3) < 0 ∨ nL ≤ (s_58.1 + 3).toNatClampNeg) then ((gL_left s_58.2.2.2.2.2.2.1 s_58.2.2.2.2.2.2.2.1 s_58.2.2.2.2.2.2.2.2.1 (xs (s_58.1 + 1).toNatClampNeg) (xs (s_58.1 + 2).toNatClampNeg) (xs (s_58.1 + 3).toNatClampNeg)).bind fun x_99 => (if s_58.2.2.2.2.2.2.2.2.2.1 + 1 ≤ 600002 ∧ s_58.2.2.2.2.2.2.2.2.2.2 + 6 ≤ 7302232 then (if ¬ ((s_58.1 + 1) < 0 ∨ nL ≤ (s_58.1 + 1).toNatClampNeg) then (if ¬ ((s_58.1 + 2) < 0 ∨ nL ≤ (s_58.1 + 2).toNatClampNeg) then (if ¬ ((s_58.1 + 3) < 0 ∨ nL ≤ (s_58.1 + 3).toNatClampNeg) then ((gX9w_left s_58.2.1 s_58.2.2.1 s_58.2.2.2.1 s_58.2.2.2.2.1 s_58.2.2.2.2.2.1 (xs (s_58.1 + 1).toNatClampNeg) (xs (s_58.1 + 2).toNatClampNeg) (xs (s_58.1 + 3).toNatClampNeg)).bind fun x_108 => ((gX9w_thrown x_108.2.1 x_108.2.2.1 x_108.2.2.2.1 x_108.2.2.2.2.1 x_108.2.2.2.2.2).bind fun x_114 => (if x_114.1 = x_99.1 then (if x_99.1 = 0 then (if (lg_cmp x_99.2.2.2 x_108.1.toInt64) = 0 then some (.inl (s_58.1 + 4, x_114.2.1, x_114.2.2.1, x_114.2.2.2.1, x_114.2.2.2.2.1, x_114.2.2.2.2.2, x_99.2.1, x_99.2.2.1, x_99.2.2.2, s_58.2.2.2.2.2.2.2.2.2.1 + 1, s_58.2.2.2.2.2.2.2.2.2.2 + 6)) else some (.inr (.inr 0))) else some (.inl (s_58.1 + 4, x_114.2.1, x_114.2.2.1, x_114.2.2.2.1, x_114.2.2.2.2.1, x_114.2.2.2.2.2, x_99.2.1, x_99.2.2.1, x_99.2.2.2, s_58.2.2.2.2.2.2.2.2.2.1 + 1, s_58.2.2.2.2.2.2.2.2.2.2 + 6))) else some (.inr (.inr 0))))) else none) else none) else none) else none)) else none) else none) else none) else (if ((xs s_58.1.toNatClampNeg) &&& 31) = 2 then (if ¬ ((s_58.1 + 1) < 0 ∨ nL ≤ (s_58.1 + 1).toNatClampNeg) then (if ¬ ((s_58.1 + 2) < 0 ∨ nL ≤ (s_58.1 + 2).toNatClampNeg) then (if ¬ ((s_58.1 + 3) < 0 ∨ nL ≤ (s_58.1 + 3).toNatClampNeg) then ((gL_top s_58.2.2.2.2.2.2.1 s_58.2.2.2.2.2.2.2.1 s_58.2.2.2.2.2.2.2.2.1 (xs (s_58.1 + 1).toNatClampNeg) (xs (s_58.1 + 2).toNatClampNeg) (xs (s_58.1 + 3).toNatClampNeg)).bind fun x_129 => (if s_58.2.2.2.2.2.2.2.2.2.1 + 1 ≤ 600002 ∧ s_58.2.2.2.2.2.2.2.2.2.2 + 6 ≤ 7302232 then (if ¬ ((s_58.1 + 1) < 0 ∨ nL ≤ (s_58.1 + 1).toNatClampNeg) then (if ¬ ((s_58.1 + 2) < 0 ∨ nL ≤ (s_58.1 + 2).toNatClampNeg) then (if ¬ ((s_58.1 + 3) < 0 ∨ nL ≤ (s_58.1 + 3).toNatClampNeg) then ((gX9w_top s_58.2.1 s_58.2.2.1 s_58.2.2.2.1 s_58.2.2.2.2.1 s_58.2.2.2.2.2.1 (xs (s_58.1 + 1).toNatClampNeg) (xs (s_58.1 + 2).toNatClampNeg) (xs (s_58.1 + 3).toNatClampNeg)).bind fun x_138 => ((gX9w_thrown x_138.2.1 x_138.2.2.1 x_138.2.2.2.1 x_138.2.2.2.2.1 x_138.2.2.2.2.2).bind fun x_144 => (if x_144.1 = x_129.1 then (if x_129.1 = 0 then (if (lg_cmp x_129.2.2.2 x_138.1.toInt64) = 0 then some (.inl (s_58.1 + 4, x_144.2.1, x_144.2.2.1, x_144.2.2.2.1, x_144.2.2.2.2.1, x_144.2.2.2.2.2, x_129.2.1, x_129.2.2.1, x_129.2.2.2, s_58.2.2.2.2.2.2.2.2.2.1 + 1, s_58.2.2.2.2.2.2.2.2.2.2 + 6)) else some (.inr (.inr 0))) else some (.inl (s_58.1 + 4, x_144.2.1, x_144.2.2.1, x_144.2.2.2.1, x_144.2.2.2.2.1, x_144.2.2.2.2.2, x_129.2.1, x_129.2.2.1, x_129.2.2.2, s_58.2.2.2.2.2.2.2.2.2.1 + 1, s_58.2.2.2.2.2.2.2.2.2.2 + 6))) else some (.inr (.inr 0))))) else none) else none) else none) else none)) else none) else none) else none) else (if ((xs s_58.1.toNatClampNeg) &&& 31) = 3 then (if ¬ ((s_58.1 + 1) < 0 ∨ nL ≤ (s_58.1 + 1).toNatClampNeg) then ((gL_kind s_58.2.2.2.2.2.2.1 s_58.2.2.2.2.2.2.2.1 s_58.2.2.2.2.2.2.2.2.1 (xs (s_58.1 + 1).toNatClampNeg)).bind fun x_157 => (if s_58.2.2.2.2.2.2.2.2.2.1 + 1 ≤ 600002 ∧ s_58.2.2.2.2.2.2.2.2.2.2 + 6 ≤ 7302232 then (if ¬ ((s_58.1 + 1) < 0 ∨ nL ≤ (s_58.1 + 1).toNatClampNeg) then ((gX9w_kind s_58.2.1 s_58.2.2.1 s_58.2.2.2.1 s_58.2.2.2.2.1 s_58.2.2.2.2.2.1 (xs (s_58.1 + 1).toNatClampNeg)).bind fun x_164 => ((gX9w_thrown x_164.2.1 x_164.2.2.1 x_164.2.2.2.1 x_164.2.2.2.2.1 x_164.2.2.2.2.2).bind fun x_170 => (if x_170.1 = x_157.1 then (if x_157.1 = 0 then (if (lg_cmp x_157.2.2.2 x_164.1.toInt64) = 0 then some (.inl (s_58.1 + 4, x_170.2.1, x_170.2.2.1, x_170.2.2.2.1, x_170.2.2.2.2.1, x_170.2.2.2.2.2, x_157.2.1, x_157.2.2.1, x_157.2.2.2, s_58.2.2.2.2.2.2.2.2.2.1 + 1, s_58.2.2.2.2.2.2.2.2.2.2 + 6)) else some (.inr (.inr 0))) else some (.inl (s_58.1 + 4, x_170.2.1, x_170.2.2.1, x_170.2.2.2.1, x_170.2.2.2.2.1, x_170.2.2.2.2.2, x_157.2.1, x_157.2.2.1, x_157.2.2.2, s_58.2.2.2.2.2.2.2.2.2.1 + 1, s_58.2.2.2.2.2.2.2.2.2.2 + 6))) else some (.inr (.inr 0))))) else none) else none)) else none) else (if ((xs s_58.1.toNatClampNeg) &&& 31) = 4 then (if ¬ ((s_58.1 + 1) < 0 ∨ nL ≤ (s_58.1 + 1).toNatClampNeg) then ((((if (xs (s_58.1 + 1).toNatClampNeg) = 0 then some 0 else some 1) : Option (Int32))).bind fun r_184 => ((gL_checked s_58.2.2.2.2.2.2.1 s_58.2.2.2.2.2.2.2.1 s_58.2.2.2.2.2.2.2.2.1 r_184).bind fun x_185 => (if s_58.2.2.2.2.2.2.2.2.2.1 + 1 ≤ 600002 ∧ s_58.2.2.2.2.2.2.2.2.2.2 + 6 ≤ 7302232 then (if ¬ ((s_58.1 + 1) < 0 ∨ nL ≤ (s_58.1 + 1).toNatClampNeg) then ((((if (xs (s_58.1 + 1).toNatClampNeg) = 0 then some 0 else some 1) : Option (Int32))).bind fun r_193 => ((gX9w_checked s_58.2.1 s_58.2.2.1 s_58.2.2.2.1 s_58.2.2.2.2.1 s_58.2.2.2.2.2.1 r_193).bind fun x_194 => ((gX9w_thrown x_194.2.1 x_194.2.2.1 x_194.2.2.2.1 x_194.2.2.2.2.1 x_194.2.2.2.2.2).bind fun x_200 => (if x_200.1 = x_185.1 then (if x_185.1 = 0 then ((((if x_194.1 = 0 then some 0 else some 1) : Option (Int64))).bind fun r_209 => (if (lg_cmp x_185.2.2.2 r_209) = 0 then some (.inl (s_58.1 + 4, x_200.2.1, x_200.2.2.1, x_200.2.2.2.1, x_200.2.2.2.2.1, x_200.2.2.2.2.2, x_185.2.1, x_185.2.2.1, x_185.2.2.2, s_58.2.2.2.2.2.2.2.2.2.1 + 1, s_58.2.2.2.2.2.2.2.2.2.2 + 6)) else some (.inr (.inr 0)))) else some (.inl (s_58.1 + 4, x_200.2.1, x_200.2.2.1, x_200.2.2.2.1, x_200.2.2.2.2.1, x_200.2.2.2.2.2, x_185.2.1, x_185.2.2.1, x_185.2.2.2, s_58.2.2.2.2.2.2.2.2.2.1 + 1, s_58.2.2.2.2.2.2.2.2.2.2 + 6))) else some (.inr (.inr 0)))))) else none) else none))) else none) else (if ((xs s_58.1.toNatClampNeg) &&& 31) = 5 then (if ¬ ((s_58.1 + 1) < 0 ∨ nL ≤ (s_58.1 + 1).toNatClampNeg) then (if ¬ ((s_58.1 + 2) < 0 ∨ nL ≤ (s_58.1 + 2).toNatClampNeg) then (if ¬ ((s_58.1 + 3) < 0 ∨ nL ≤ (s_58.1 + 3).toNatClampNeg) then ((((if (xs (s_58.1 + 3).toNatClampNeg) = 0 then some 0 else some 1) : Option (Int32))).bind fun r_227 => ((gL_broken s_58.2.2.2.2.2.2.1 s_58.2.2.2.2.2.2.2.1 s_58.2.2.2.2.2.2.2.2.1 (xs (s_58.1 + 1).toNatClampNeg) (xs (s_58.1 + 2).toNatClampNeg) r_227).bind fun x_228 => (if s_58.2.2.2.2.2.2.2.2.2.1 + 1 ≤ 600002 ∧ s_58.2.2.2.2.2.2.2.2.2.2 + 6 ≤ 7302232 then (if ¬ ((s_58.1 + 1) < 0 ∨ nL ≤ (s_58.1 + 1).toNatClampNeg) then (if ¬ ((s_58.1 + 2) < 0 ∨ nL ≤ (s_58.1 + 2).toNatClampNeg) then (if ¬ ((s_58.1 + 3) < 0 ∨ nL ≤ (s_58.1 + 3).toNatClampNeg) then ((((if (xs (s_58.1 + 3).toNatClampNeg) = 0 then some 0 else some 1) : Option (Int32))).bind fun r_238 => ((gX9w_broken s_58.2.1 s_58.2.2.1 s_58.2.2.2.1 s_58.2.2.2.2.1 s_58.2.2.2.2.2.1 (xs (s_58.1 + 1).toNatClampNeg) (xs (s_58.1 + 2).toNatClampNeg) r_238).bind fun x_239 => ((gX9w_thrown x_239.2.1 x_239.2.2.1 x_239.2.2.2.1 x_239.2.2.2.2.1 x_239.2.2.2.2.2).bind fun x_245 => (if x_245.1 = x_228.1 then (if x_228.1 = 0 then (if (lg_cmp x_228.2.2.2 x_239.1.toInt64) = 0 then some (.inl (s_58.1 + 4, x_245.2.1, x_245.2.2.1, x_245.2.2.2.1, x_245.2.2.2.2.1, x_245.2.2.2.2.2, x_228.2.1, x_228.2.2.1, x_228.2.2.2, s_58.2.2.2.2.2.2.2.2.2.1 + 1, s_58.2.2.2.2.2.2.2.2.2.2 + 6)) else some (.inr (.inr 0))) else some (.inl (s_58.1 + 4, x_245.2.1, x_245.2.2.1, x_245.2.2.2.1, x_245.2.2.2.2.1, x_245.2.2.2.2.2, x_228.2.1, x_228.2.2.1, x_228.2.2.2, s_58.2.2.2.2.2.2.2.2.2.1 + 1, s_58.2.2.2.2.2.2.2.2.2.2 + 6))) else some (.inr (.inr 0)))))) else none) else none) else none) else none))) else none) else none) else none) else (if ((xs s_58.1.toNatClampNeg) &&& 31) = 6 then ((gL_test s_58.2.2.2.2.2.2.1 s_58.2.2.2.2.2.2.2.1 s_58.2.2.2.2.2.2.2.2.1).bind fun x_263 => (if s_58.2.2.2.2.2.2.2.2.2.1 + 1 ≤ 600002 ∧ s_58.2.2.2.2.2.2.2.2.2.2 + 6 ≤ 7302232 then ((gX9w_test s_58.2.1 s_58.2.2.1 s_58.2.2.2.1 s_58.2.2.2.2.1 s_58.2.2.2.2.2.1).bind fun x_269 => (if s_58.2.2.2.2.2.2.2.2.2.1 + 1 + 10 ≤ 600002 ∧ s_58.2.2.2.2.2.2.2.2.2.2 + 6 + 50 ≤ 7302232 then ((gX9w_thrown x_269.2.1 x_269.2.2.1 x_269.2.2.2.1 x_269.2.2.2.2.1 x_269.2.2.2.2.2).bind fun x_276 => (if x_276.1 = x_263.1 then (if x_263.1 = 0 then (if (lg_cmp x_263.2.2.2 x_269.1.toInt64) = 0 then some (.inl (s_58.1 + 4, x_276.2.1, x_276.2.2.1, x_276.2.2.2.1, x_276.2.2.2.2.1, x_276.2.2.2.2.2, x_263.2.1, x_263.2.2.1, x_263.2.2.2, s_58.2.2.2.2.2.2.2.2.2.1 + 1 + 10, s_58.2.2.2.2.2.2.2.2.2.2 + 6 + 50)) else some (.inr (.inr 0))) else some (.inl (s_58.1 + 4, x_276.2.1, x_276.2.2.1, x_276.2.2.2.1, x_276.2.2.2.2.1, x_276.2.2.2.2.2, x_263.2.1, x_263.2.2.1, x_263.2.2.2, s_58.2.2.2.2.2.2.2.2.2.1 + 1 + 10, s_58.2.2.2.2.2.2.2.2.2.2 + 6 + 50))) else some (.inr (.inr 0)))) else none)) else none)) else (if ((xs s_58.1.toNatClampNeg) &&& 31) = 7 then ((gL_start s_58.2.2.2.2.2.2.1 s_58.2.2.2.2.2.2.2.1 s_58.2.2.2.2.2.2.2.2.1).bind fun x_288 => (if s_58.2.2.2.2.2.2.2.2.2.1 + 1 ≤ 600002 ∧ s_58.2.2.2.2.2.2.2.2.2.2 + 6 ≤ 7302232 then ((gX9w_begin s_58.2.1 s_58.2.2.1 s_58.2.2.2.1 s_58.2.2.2.2.1 s_58.2.2.2.2.2.1).bind fun x_294 => (if s_58.2.2.2.2.2.2.2.2.2.1 + 1 + 100 ≤ 600002 ∧ s_58.2.2.2.2.2.2.2.2.2.2 + 6 + 500 ≤ 7302232 then ((gX9w_thrown x_294.2.1 x_294.2.2.1 x_294.2.2.2.1 x_294.2.2.2.2.1 x_294.2.2.2.2.2).bind fun x_301 => (if x_301.1 = x_288.1 then (if x_288.1 = 0 then (if (lg_cmp x_288.2.2.2 x_294.1.toInt64) = 0 then some (.inl (s_58.1 + 4, x_301.2.1, x_301.2.2.1, x_301.2.2.2.1, x_301.2.2.2.2.1, x_301.2.2.2.2.2, x_288.2.1, x_288.2.2.1, x_288.2.2.2, s_58.2.2.2.2.2.2.2.2.2.1 + 1 + 100, s_58.2.2.2.2.2.2.2.2.2.2 + 6 + 500)) else some (.inr (.inr 0))) else some (.inl (s_58.1 + 4, x_301.2.1, x_301.2.2.1, x_301.2.2.2.1, x_301.2.2.2.2.1, x_301.2.2.2.2.2, x_288.2.1, x_288.2.2.1, x_288.2.2.2, s_58.2.2.2.2.2.2.2.2.2.1 + 1 + 100, s_58.2.2.2.2.2.2.2.2.2.2 + 6 + 500))) else some (.inr (.inr 0)))) else none)) else none)) else (if ((xs s_58.1.toNatClampNeg) &&& 31) = 8 then (if ¬ ((s_58.1 + 1) < 0 ∨ nL ≤ (s_58.1 + 1).toNatClampNeg) then ((gL_beat s_58.2.2.2.2.2.2.1 s_58.2.2.2.2.2.2.2.1 s_58.2.2.2.2.2.2.2.2.1 (xs (s_58.1 + 1).toNatClampNeg)).bind fun x_314 => (if s_58.2.2.2.2.2.2.2.2.2.1 + 1 ≤ 600002 ∧ s_58.2.2.2.2.2.2.2.2.2.2 + 6 ≤ 7302232 then (if ¬ ((s_58.1 + 1) < 0 ∨ nL ≤ (s_58.1 + 1).toNatClampNeg) then ((gX9w_beat s_58.2.1 s_58.2.2.1 s_58.2.2.2.1 s_58.2.2.2.2.1 s_58.2.2.2.2.2.1 (xs (s_58.1 + 1).toNatClampNeg)).bind fun x_321 => (if s_58.2.2.2.2.2.2.2.2.2.1 + 1 + 200 ≤ 600002 ∧ s_58.2.2.2.2.2.2.2.2.2.2 + 6 + 1800 ≤ 7302232 then ((gX9w_thrown x_321.2.1 x_321.2.2.1 x_321.2.2.2.1 x_321.2.2.2.2.1 x_321.2.2.2.2.2).bind fun x_328 => (if x_328.1 = x_314.1 then (if x_314.1 = 0 then (if (lg_cmp x_314.2.2.2 x_321.1.toInt64) = 0 then some (.inl (s_58.1 + 4, x_328.2.1, x_328.2.2.1, x_328.2.2.2.1, x_328.2.2.2.2.1, x_328.2.2.2.2.2, x_314.2.1, x_314.2.2.1, x_314.2.2.2, s_58.2.2.2.2.2.2.2.2.2.1 + 1 + 200, s_58.2.2.2.2.2.2.2.2.2.2 + 6 + 1800)) else some (.inr (.inr 0))) else some (.inl (s_58.1 + 4, x_328.2.1, x_328.2.2.1, x_328.2.2.2.1, x_328.2.2.2.2.1, x_328.2.2.2.2.2, x_314.2.1, x_314.2.2.1, x_314.2.2.2, s_58.2.2.2.2.2.2.2.2.2.1 + 1 + 200, s_58.2.2.2.2.2.2.2.2.2.2 + 6 + 1800))) else some (.inr (.inr 0)))) else none)) else none) else none)) else none) else (if ((xs s_58.1.toNatClampNeg) &&& 31) = 9 then (if ¬ ((s_58.1 + 1) < 0 ∨ nL ≤ (s_58.1 + 1).toNatClampNeg) then (if ¬ ((s_58.1 + 2) < 0 ∨ nL ≤ (s_58.1 + 2).toNatClampNeg) then (if ¬ ((s_58.1 + 3) < 0 ∨ nL ≤ (s_58.1 + 3).toNatClampNeg) then ((gL_bend s_58.2.2.2.2.2.2.1 s_58.2.2.2.2.2.2.2.1 s_58.2.2.2.2.2.2.2.2.1 (xs (s_58.1 + 1).toNatClampNeg) (xs (s_58.1 + 2).toNatClampNeg) (xs (s_58.1 + 3).toNatClampNeg)).bind fun x_343 => (if s_58.2.2.2.2.2.2.2.2.2.1 + 1 ≤ 600002 ∧ s_58.2.2.2.2.2.2.2.2.2.2 + 6 ≤ 7302232 then (if ¬ ((s_58.1 + 1) < 0 ∨ nL ≤ (s_58.1 + 1).toNatClampNeg) then (if ¬ ((s_58.1 + 2) < 0 ∨ nL ≤ (s_58.1 + 2).toNatClampNeg) then (if ¬ ((s_58.1 + 3) < 0 ∨ nL ≤ (s_58.1 + 3).toNatClampNeg) then ((gX9w_bend s_58.2.1 s_58.2.2.1 s_58.2.2.2.1 s_58.2.2.2.2.1 s_58.2.2.2.2.2.1 (xs (s_58.1 + 1).toNatClampNeg) (xs (s_58.1 + 2).toNatClampNeg) (xs (s_58.1 + 3).toNatClampNeg)).bind fun x_352 => ((gX9w_thrown x_352.2.1 x_352.2.2.1 x_352.2.2.2.1 x_352.2.2.2.2.1 x_352.2.2.2.2.2).bind fun x_358 => (if x_358.1 = x_343.1 then (if x_343.1 = 0 then (if (lg_cmp x_343.2.2.2 x_352.1.toInt64) = 0 then some (.inl (s_58.1 + 4, x_358.2.1, x_358.2.2.1, x_358.2.2.2.1, x_358.2.2.2.2.1, x_358.2.2.2.2.2, x_343.2.1, x_343.2.2.1, x_343.2.2.2, s_58.2.2.2.2.2.2.2.2.2.1 + 1, s_58.2.2.2.2.2.2.2.2.2.2 + 6)) else some (.inr (.inr 0))) else some (.inl (s_58.1 + 4, x_358.2.1, x_358.2.2.1, x_358.2.2.2.1, x_358.2.2.2.2.1, x_358.2.2.2.2.2, x_343.2.1, x_343.2.2.1, x_343.2.2.2, s_58.2.2.2.2.2.2.2.2.2.1 + 1, s_58.2.2.2.2.2.2.2.2.2.2 + 6))) else some (.inr (.inr 0))))) else none) else none) else none) else none)) else none) else none) else none) else (if ((xs s_58.1.toNatClampNeg) &&& 31) = 10 then ((gL_check s_58.2.2.2.2.2.2.1 s_58.2.2.2.2.2.2.2.1 s_58.2.2.2.2.2.2.2.2.1).bind fun x_370 => (if s_58.2.2.2.2.2.2.2.2.2.1 + 1 ≤ 600002 ∧ s_58.2.2.2.2.2.2.2.2.2.2 + 6 ≤ 7302232 then ((gX9w_check s_58.2.1 s_58.2.2.1 s_58.2.2.2.1 s_58.2.2.2.2.1 s_58.2.2.2.2.2.1).bind fun x_376 => ((gX9w_thrown x_376.2.1 x_376.2.2.1 x_376.2.2.2.1 x_376.2.2.2.2.1 x_376.2.2.2.2.2).bind fun x_382 => (if x_382.1 = x_370.1 then (if x_370.1 = 0 then (if (lg_cmp x_370.2.2.2 x_376.1.toInt64) = 0 then some (.inl (s_58.1 + 4, x_382.2.1, x_382.2.2.1, x_382.2.2.2.1, x_382.2.2.2.2.1, x_382.2.2.2.2.2, x_370.2.1, x_370.2.2.1, x_370.2.2.2, s_58.2.2.2.2.2.2.2.2.2.1 + 1, s_58.2.2.2.2.2.2.2.2.2.2 + 6)) else some (.inr (.inr 0))) else some (.inl (s_58.1 + 4, x_382.2.1, x_382.2.2.1, x_382.2.2.2.1, x_382.2.2.2.2.1, x_382.2.2.2.2.2, x_370.2.1, x_370.2.2.1, x_370.2.2.2, s_58.2.2.2.2.2.2.2.2.2.1 + 1, s_58.2.2.2.2.2.2.2.2.2.2 + 6))) else some (.inr (.inr 0))))) else none)) else (if ((xs s_58.1.toNatClampNeg) &&& 31) = 11 then (if ¬ ((s_58.1 + 1) < 0 ∨ nL ≤ (s_58.1 + 1).toNatClampNeg) then ((gL_mesh s_58.2.2.2.2.2.2.1 s_58.2.2.2.2.2.2.2.1 s_58.2.2.2.2.2.2.2.2.1 (xs (s_58.1 + 1).toNatClampNeg)).bind fun x_395 => (if s_58.2.2.2.2.2.2.2.2.2.1 + 1 ≤ 600002 ∧ s_58.2.2.2.2.2.2.2.2.2.2 + 6 ≤ 7302232 then (if ¬ ((s_58.1 + 1) < 0 ∨ nL ≤ (s_58.1 + 1).toNatClampNeg) then ((gX9w_mesh s_58.2.1 s_58.2.2.1 s_58.2.2.2.1 s_58.2.2.2.2.1 s_58.2.2.2.2.2.1 (xs (s_58.1 + 1).toNatClampNeg)).bind fun x_402 => ((gX9w_thrown x_402.2.1 x_402.2.2.1 x_402.2.2.2.1 x_402.2.2.2.2.1 x_402.2.2.2.2.2).bind fun x_408 => (if x_408.1 = x_395.1 then (if x_395.1 = 0 then (if (lg_cmp x_395.2.2.2 x_402.1.toInt64) = 0 then some (.inl (s_58.1 + 4, x_408.2.1, x_408.2.2.1, x_408.2.2.2.1, x_408.2.2.2.2.1, x_408.2.2.2.2.2, x_395.2.1, x_395.2.2.1, x_395.2.2.2, s_58.2.2.2.2.2.2.2.2.2.1 + 1, s_58.2.2.2.2.2.2.2.2.2.2 + 6)) else some (.inr (.inr 0))) else some (.inl (s_58.1 + 4, x_408.2.1, x_408.2.2.1, x_408.2.2.2.1, x_408.2.2.2.2.1, x_408.2.2.2.2.2, x_395.2.1, x_395.2.2.1, x_395.2.2.2, s_58.2.2.2.2.2.2.2.2.2.1 + 1, s_58.2.2.2.2.2.2.2.2.2.2 + 6))) else some (.inr (.inr 0))))) else none) else none)) else none) else (if ((xs s_58.1.toNatClampNeg) &&& 31) = 12 then (if ¬ ((s_58.1 + 1) < 0 ∨ nL ≤ (s_58.1 + 1).toNatClampNeg) then (if ¬ ((s_58.1 + 2) < 0 ∨ nL ≤ (s_58.1 + 2).toNatClampNeg) then (if ¬ ((s_58.1 + 3) < 0 ∨ nL ≤ (s_58.1 + 3).toNatClampNeg) then ((gL_ofCell s_58.2.2.2.2.2.2.1 s_58.2.2.2.2.2.2.2.1 s_58.2.2.2.2.2.2.2.2.1 (xs (s_58.1 + 1).toNatClampNeg) (xs (s_58.1 + 2).toNatClampNeg) (xs (s_58.1 + 3).toNatClampNeg)).bind fun x_423 => (if s_58.2.2.2.2.2.2.2.2.2.1 + 1 ≤ 600002 ∧ s_58.2.2.2.2.2.2.2.2.2.2 + 6 ≤ 7302232 then (if ¬ ((s_58.1 + 1) < 0 ∨ nL ≤ (s_58.1 + 1).toNatClampNeg) then (if ¬ ((s_58.1 + 2) < 0 ∨ nL ≤ (s_58.1 + 2).toNatClampNeg) then (if ¬ ((s_58.1 + 3) < 0 ∨ nL ≤ (s_58.1 + 3).toNatClampNeg) then ((gX9w_ofCell s_58.2.1 s_58.2.2.1 s_58.2.2.2.1 s_58.2.2.2.2.1 s_58.2.2.2.2.2.1 (xs (s_58.1 + 1).toNatClampNeg) (xs (s_58.1 + 2).toNatClampNeg) (xs (s_58.1 + 3).toNatClampNeg)).bind fun x_432 => ((gX9w_thrown x_432.2.1 x_432.2.2.1 x_432.2.2.2.1 x_432.2.2.2.2.1 x_432.2.2.2.2.2).bind fun x_438 => (if x_438.1 = x_423.1 then (if x_423.1 = 0 then (if (lg_cmp x_423.2.2.2 x_432.1.toInt64) = 0 then some (.inl (s_58.1 + 4, x_438.2.1, x_438.2.2.1, x_438.2.2.2.1, x_438.2.2.2.2.1, x_438.2.2.2.2.2, x_423.2.1, x_423.2.2.1, x_423.2.2.2, s_58.2.2.2.2.2.2.2.2.2.1 + 1, s_58.2.2.2.2.2.2.2.2.2.2 + 6)) else some (.inr (.inr 0))) else some (.inl (s_58.1 + 4, x_438.2.1, x_438.2.2.1, x_438.2.2.2.1, x_438.2.2.2.2.1, x_438.2.2.2.2.2, x_423.2.1, x_423.2.2.1, x_423.2.2.2, s_58.2.2.2.2.2.2.2.2.2.1 + 1, s_58.2.2.2.2.2.2.2.2.2.2 + 6))) else some (.inr (.inr 0))))) else none) else none) else none) else none)) else none) else none) else none) else (if ((xs s_58.1.toNatClampNeg) &&& 31) = 13 then (if ¬ ((s_58.1 + 1) < 0 ∨ nL ≤ (s_58.1 + 1).toNatClampNeg) then (if ¬ ((s_58.1 + 2) < 0 ∨ nL ≤ (s_58.1 + 2).toNatClampNeg) then ((gL_result s_58.2.2.2.2.2.2.1 s_58.2.2.2.2.2.2.2.1 s_58.2.2.2.2.2.2.2.2.1 (xs (s_58.1 + 1).toNatClampNeg) (xs (s_58.1 + 2).toNatClampNeg)).bind fun x_452 => (if s_58.2.2.2.2.2.2.2.2.2.1 + 1 ≤ 600002 ∧ s_58.2.2.2.2.2.2.2.2.2.2 + 6 ≤ 7302232 then (if ¬ ((s_58.1 + 1) < 0 ∨ nL ≤ (s_58.1 + 1).toNatClampNeg) then (if ¬ ((s_58.1 + 2) < 0 ∨ nL ≤ (s_58.1 + 2).toNatClampNeg) then ((gX9w_result s_58.2.1 s_58.2.2.1 s_58.2.2.2.1 s_58.2.2.2.2.1 s_58.2.2.2.2.2.1 (xs (s_58.1 + 1).toNatClampNeg) (xs (s_58.1 + 2).toNatClampNeg)).bind fun x_460 => ((gX9w_thrown x_460.2.1 x_460.2.2.1 x_460.2.2.2.1 x_460.2.2.2.2.1 x_460.2.2.2.2.2).bind fun x_466 => (if x_466.1 = x_452.1 then (if x_452.1 = 0 then (if (lg_cmp x_452.2.2.2 x_460.1.toInt64) = 0 then some (.inl (s_58.1 + 4, x_466.2.1, x_466.2.2.1, x_466.2.2.2.1, x_466.2.2.2.2.1, x_466.2.2.2.2.2, x_452.2.1, x_452.2.2.1, x_452.2.2.2, s_58.2.2.2.2.2.2.2.2.2.1 + 1, s_58.2.2.2.2.2.2.2.2.2.2 + 6)) else some (.inr (.inr 0))) else some (.inl (s_58.1 + 4, x_466.2.1, x_466.2.2.1, x_466.2.2.2.1, x_466.2.2.2.2.1, x_466.2.2.2.2.2, x_452.2.1, x_452.2.2.1, x_452.2.2.2, s_58.2.2.2.2.2.2.2.2.2.1 + 1, s_58.2.2.2.2.2.2.2.2.2.2 + 6))) else some (.inr (.inr 0))))) else none) else none) else none)) else none) else none) else (if ((xs s_58.1.toNatClampNeg) &&& 31) = 14 then (if ¬ ((s_58.1 + 1) < 0 ∨ nL ≤ (s_58.1 + 1).toNatClampNeg) then (if ¬ ((s_58.1 + 2) < 0 ∨ nL ≤ (s_58.1 + 2).toNatClampNeg) then ((gL_plain s_58.2.2.2.2.2.2.1 s_58.2.2.2.2.2.2.2.1 s_58.2.2.2.2.2.2.2.2.1 (xs (s_58.1 + 1).toNatClampNeg) (xs (s_58.1 + 2).toNatClampNeg)).bind fun x_480 => (if s_58.2.2.2.2.2.2.2.2.2.1 + 1 ≤ 600002 ∧ s_58.2.2.2.2.2.2.2.2.2.2 + 6 ≤ 7302232 then (if ¬ ((s_58.1 + 1) < 0 ∨ nL ≤ (s_58.1 + 1).toNatClampNeg) then (if ¬ ((s_58.1 + 2) < 0 ∨ nL ≤ (s_58.1 + 2).toNatClampNeg) then ((gX9w_plain s_58.2.1 s_58.2.2.1 s_58.2.2.2.1 s_58.2.2.2.2.1 s_58.2.2.2.2.2.1 (xs (s_58.1 + 1).toNatClampNeg) (xs (s_58.1 + 2).toNatClampNeg)).bind fun x_488 => ((gX9w_thrown x_488.2.1 x_488.2.2.1 x_488.2.2.2.1 x_488.2.2.2.2.1 x_488.2.2.2.2.2).bind fun x_494 => (if x_494.1 = x_480.1 then (if x_480.1 = 0 then (if (lg_cmp x_480.2.2.2 x_488.1.toInt64) = 0 then some (.inl (s_58.1 + 4, x_494.2.1, x_494.2.2.1, x_494.2.2.2.1, x_494.2.2.2.2.1, x_494.2.2.2.2.2, x_480.2.1, x_480.2.2.1, x_480.2.2.2, s_58.2.2.2.2.2.2.2.2.2.1 + 1, s_58.2.2.2.2.2.2.2.2.2.2 + 6)) else some (.inr (.inr 0))) else some (.inl (s_58.1 + 4, x_494.2.1, x_494.2.2.1, x_494.2.2.2.1, x_494.2.2.2.2.1, x_494.2.2.2.2.2, x_480.2.1, x_480.2.2.1, x_480.2.2.2, s_58.2.2.2.2.2.2.2.2.2.1 + 1, s_58.2.2.2.2.2.2.2.2.2.2 + 6))) else some (.inr (.inr 0))))) else none) else none) else none)) else none) else none) else (if ((xs s_58.1.toNatClampNeg) &&& 31) = 15 then (if ¬ ((s_58.1 + 1) < 0 ∨ nL ≤ (s_58.1 + 1).toNatClampNeg) then ((gL_row s_58.2.2.2.2.2.2.1 s_58.2.2.2.2.2.2.2.1 s_58.2.2.2.2.2.2.2.2.1 (xs (s_58.1 + 1).toNatClampNeg)).bind fun x_507 => (if s_58.2.2.2.2.2.2.2.2.2.1 + 4 ≤ 600002 ∧ s_58.2.2.2.2.2.2.2.2.2.2 + 40 ≤ 7302232 then ybr x_507 (fun w_515 => (if ¬ ((s_58.1 + 1) < 0 ∨ nL ≤ (s_58.1 + 1).toNatClampNeg) then ((gX9w_row s_58.2.1 s_58.2.2.1 s_58.2.2.2.1 s_58.2.2.2.2.1 s_58.2.2.2.2.2.1 (xs (s_58.1 + 1).toNatClampNeg)).bind fun x_517 => (if s_58.2.2.2.2.2.2.2.2.2.1 + 4 + 4 ≤ 600002 ∧ s_58.2.2.2.2.2.2.2.2.2.2 + 40 + 40 ≤ 7302232 then ybr x_517 (fun w_529 => ((gX9w_thrown w_529.1 w_529.2.1 w_529.2.2.1 w_529.2.2.2.1 w_529.2.2.2.2.1).bind fun x_530 => (if x_530.1 = w_515.1 then (if w_515.1 = 0 then ((fJ0_equals_9ea2d w_515.2.2.2.2.2 w_515.2.2.2.2.1 w_529.2.2.2.2.2.2 w_529.2.2.2.2.2.1).bind fun x_538 => (if x_538 = 0 then some (.inr (.inr 0)) else some (.inl (s_58.1 + 4, x_530.2.1, x_530.2.2.1, x_530.2.2.2.1, x_530.2.2.2.2.1, x_530.2.2.2.2.2, w_515.2.1, w_515.2.2.1, w_515.2.2.2.1, s_58.2.2.2.2.2.2.2.2.2.1 + 4 + 4, s_58.2.2.2.2.2.2.2.2.2.2 + 40 + 40)))) else some (.inl (s_58.1 + 4, x_530.2.1, x_530.2.2.1, x_530.2.2.2.1, x_530.2.2.2.2.1, x_530.2.2.2.2.2, w_515.2.1, w_515.2.2.1, w_515.2.2.2.1, s_58.2.2.2.2.2.2.2.2.2.1 + 4 + 4, s_58.2.2.2.2.2.2.2.2.2.2 + 40 + 40))) else some (.inr (.inr 0))))) (fun w_529 => ((gX9w_thrown w_529.1 w_529.2.1 w_529.2.2.1 w_529.2.2.2.1 w_529.2.2.2.2).bind fun x_545 => (if x_545.1 = w_515.1 then (if w_515.1 = 0 then none else some (.inl (s_58.1 + 4, x_545.2.1, x_545.2.2.1, x_545.2.2.2.1, x_545.2.2.2.2.1, x_545.2.2.2.2.2, w_515.2.1, w_515.2.2.1, w_515.2.2.2.1, s_58.2.2.2.2.2.2.2.2.2.1 + 4 + 4, s_58.2.2.2.2.2.2.2.2.2.2 + 40 + 40))) else some (.inr (.inr 0))))) else none)) else none)) (fun w_515 => (if ¬ ((s_58.1 + 1) < 0 ∨ nL ≤ (s_58.1 + 1).toNatClampNeg) then ((gX9w_row s_58.2.1 s_58.2.2.1 s_58.2.2.2.1 s_58.2.2.2.2.1 s_58.2.2.2.2.2.1 (xs (s_58.1 + 1).toNatClampNeg)).bind fun x_555 => (if s_58.2.2.2.2.2.2.2.2.2.1 + 4 + 4 ≤ 600002 ∧ s_58.2.2.2.2.2.2.2.2.2.2 + 40 + 40 ≤ 7302232 then ybr x_555 (fun w_567 => ((gX9w_thrown w_567.1 w_567.2.1 w_567.2.2.1 w_567.2.2.2.1 w_567.2.2.2.2.1).bind fun x_568 => (if x_568.1 = w_515.1 then (if w_515.1 = 0 then none else some (.inl (s_58.1 + 4, x_568.2.1, x_568.2.2.1, x_568.2.2.2.1, x_568.2.2.2.2.1, x_568.2.2.2.2.2, w_515.2.1, w_515.2.2.1, w_515.2.2.2, s_58.2.2.2.2.2.2.2.2.2.1 + 4 + 4, s_58.2.2.2.2.2.2.2.2.2.2 + 40 + 40))) else some (.inr (.inr 0))))) (fun w_567 => ((gX9w_thrown w_567.1 w_567.2.1 w_567.2.2.1 w_567.2.2.2.1 w_567.2.2.2.2).bind fun x_577 => (if x_577.1 = w_515.1 then (if w_515.1 = 0 then none else some (.inl (s_58.1 + 4, x_577.2.1, x_577.2.2.1, x_577.2.2.2.1, x_577.2.2.2.2.1, x_577.2.2.2.2.2, w_515.2.1, w_515.2.2.1, w_515.2.2.2, s_58.2.2.2.2.2.2.2.2.2.1 + 4 + 4, s_58.2.2.2.2.2.2.2.2.2.2 + 40 + 40))) else some (.inr (.inr 0))))) else none)) else none)) else none)) else none) else (if ((xs s_58.1.toNatClampNeg) &&& 31) = 16 then (if ¬ ((s_58.1 + 1) < 0 ∨ nL ≤ (s_58.1 + 1).toNatClampNeg) then (if ¬ ((s_58.1 + 2) < 0 ∨ nL ≤ (s_58.1 + 2).toNatClampNeg) then ((gL_beats s_58.2.2.2.2.2.2.1 s_58.2.2.2.2.2.2.2.1 s_58.2.2.2.2.2.2.2.2.1 (xs (s_58.1 + 1).toNatClampNeg) (xs (s_58.1 + 2).toNatClampNeg)).bind fun x_589 => (if s_58.2.2.2.2.2.2.2.2.2.1 + 1 ≤ 600002 ∧ s_58.2.2.2.2.2.2.2.2.2.2 + 6 ≤ 7302232 then (if ¬ ((s_58.1 + 1) < 0 ∨ nL ≤ (s_58.1 + 1).toNatClampNeg) then (if ¬ ((s_58.1 + 2) < 0 ∨ nL ≤ (s_58.1 + 2).toNatClampNeg) then ((gX9w_beats s_58.2.1 s_58.2.2.1 s_58.2.2.2.1 s_58.2.2.2.2.1 s_58.2.2.2.2.2.1 (xs (s_58.1 + 1).toNatClampNeg) (xs (s_58.1 + 2).toNatClampNeg)).bind fun x_597 => ((gX9w_thrown x_597.2.1 x_597.2.2.1 x_597.2.2.2.1 x_597.2.2.2.2.1 x_597.2.2.2.2.2).bind fun x_603 => (if x_603.1 = x_589.1 then (if x_589.1 = 0 then (if (lg_cmp x_589.2.2.2 x_597.1.toInt64) = 0 then some (.inl (s_58.1 + 4, x_603.2.1, x_603.2.2.1, x_603.2.2.2.1, x_603.2.2.2.2.1, x_603.2.2.2.2.2, x_589.2.1, x_589.2.2.1, x_589.2.2.2, s_58.2.2.2.2.2.2.2.2.2.1 + 1, s_58.2.2.2.2.2.2.2.2.2.2 + 6)) else some (.inr (.inr 0))) else some (.inl (s_58.1 + 4, x_603.2.1, x_603.2.2.1, x_603.2.2.2.1, x_603.2.2.2.2.1, x_603.2.2.2.2.2, x_589.2.1, x_589.2.2.1, x_589.2.2.2, s_58.2.2.2.2.2.2.2.2.2.1 + 1, s_58.2.2.2.2.2.2.2.2.2.2 + 6))) else some (.inr (.inr 0))))) else none) else none) else none)) else none) else none) else (if ((xs s_58.1.toNatClampNeg) &&& 31) = 17 then (if ¬ ((s_58.1 + 1) < 0 ∨ nL ≤ (s_58.1 + 1).toNatClampNeg) then ((gL_best s_58.2.2.2.2.2.2.1 s_58.2.2.2.2.2.2.2.1 s_58.2.2.2.2.2.2.2.2.1 (xs (s_58.1 + 1).toNatClampNeg)).bind fun x_616 => (if s_58.2.2.2.2.2.2.2.2.2.1 + 1 ≤ 600002 ∧ s_58.2.2.2.2.2.2.2.2.2.2 + 6 ≤ 7302232 then (if ¬ ((s_58.1 + 1) < 0 ∨ nL ≤ (s_58.1 + 1).toNatClampNeg) then ((gX9w_best s_58.2.1 s_58.2.2.1 s_58.2.2.2.1 s_58.2.2.2.2.1 s_58.2.2.2.2.2.1 (xs (s_58.1 + 1).toNatClampNeg)).bind fun x_623 => (if s_58.2.2.2.2.2.2.2.2.2.1 + 1 + 30 ≤ 600002 ∧ s_58.2.2.2.2.2.2.2.2.2.2 + 6 + 60 ≤ 7302232 then ((gX9w_thrown x_623.2.1 x_623.2.2.1 x_623.2.2.2.1 x_623.2.2.2.2.1 x_623.2.2.2.2.2).bind fun x_630 => (if x_630.1 = x_616.1 then (if x_616.1 = 0 then (if (lg_cmp x_616.2.2.2 x_623.1.toInt64) = 0 then some (.inl (s_58.1 + 4, x_630.2.1, x_630.2.2.1, x_630.2.2.2.1, x_630.2.2.2.2.1, x_630.2.2.2.2.2, x_616.2.1, x_616.2.2.1, x_616.2.2.2, s_58.2.2.2.2.2.2.2.2.2.1 + 1 + 30, s_58.2.2.2.2.2.2.2.2.2.2 + 6 + 60)) else some (.inr (.inr 0))) else some (.inl (s_58.1 + 4, x_630.2.1, x_630.2.2.1, x_630.2.2.2.1, x_630.2.2.2.2.1, x_630.2.2.2.2.2, x_616.2.1, x_616.2.2.1, x_616.2.2.2, s_58.2.2.2.2.2.2.2.2.2.1 + 1 + 30, s_58.2.2.2.2.2.2.2.2.2.2 + 6 + 60))) else some (.inr (.inr 0)))) else none)) else none) else none)) else none) else (if ((xs s_58.1.toNatClampNeg) &&& 31) = 18 then ((gX6_saved s_58.2.2.2.2.2.2.1 s_58.2.2.2.2.2.2.2.1).bind fun x_642 => ((gX9w_saved s_58.2.1 s_58.2.2.1 s_58.2.2.2.1 s_58.2.2.2.2.1 s_58.2.2.2.2.2.1).bind fun x_646 => (if s_58.2.2.2.2.2.2.2.2.2.1 + 60 ≤ 600002 ∧ s_58.2.2.2.2.2.2.2.2.2.2 + 120 ≤ 7302232 then (if x_642.1 = x_646.1 then some (.inl (s_58.1 + 4, x_646.2.1, x_646.2.2.1, x_646.2.2.2.1, x_646.2.2.2.2.1, x_646.2.2.2.2.2, x_642.2.1, x_642.2.2, s_58.2.2.2.2.2.2.2.2.1, s_58.2.2.2.2.2.2.2.2.2.1 + 60, s_58.2.2.2.2.2.2.2.2.2.2 + 120)) else some (.inr (.inr 0))) else none))) else (if ((xs s_58.1.toNatClampNeg) &&& 31) = 19 then ((gX6_isSound s_58.2.2.2.2.2.2.1 s_58.2.2.2.2.2.2.2.1).bind fun x_656 => ((gX9w_isSound s_58.2.1 s_58.2.2.1 s_58.2.2.2.1 s_58.2.2.2.2.1 s_58.2.2.2.2.2.1).bind fun x_660 => (if s_58.2.2.2.2.2.2.2.2.2.1 + 30 ≤ 600002 ∧ s_58.2.2.2.2.2.2.2.2.2.2 + 60 ≤ 7302232 then (if x_656.1 = x_660.1 then some (.inl (s_58.1 + 4, x_660.2.1, x_660.2.2.1, x_660.2.2.2.1, x_660.2.2.2.2.1, x_660.2.2.2.2.2, x_656.2.1, x_656.2.2, s_58.2.2.2.2.2.2.2.2.1, s_58.2.2.2.2.2.2.2.2.2.1 + 30, s_58.2.2.2.2.2.2.2.2.2.2 + 60)) else some (.inr (.inr 0))) else none))) else (if ((xs s_58.1.toNatClampNeg) &&& 31) = 20 then ((gX6_digest s_58.2.2.2.2.2.2.1 s_58.2.2.2.2.2.2.2.1).bind fun x_670 => ((gX9w_digest s_58.2.1 s_58.2.2.1 s_58.2.2.2.1 s_58.2.2.2.2.1 s_58.2.2.2.2.2.1).bind fun x_674 => (if s_58.2.2.2.2.2.2.2.2.2.1 + 300 ≤ 600002 ∧ s_58.2.2.2.2.2.2.2.2.2.2 + 600 ≤ 7302232 then (if (lg_cmp x_670.1 x_674.1) = 0 then some (.inl (s_58.1 + 4, x_674.2.1, x_674.2.2.1, x_674.2.2.2.1, x_674.2.2.2.2.1, x_674.2.2.2.2.2, x_670.2.1, x_670.2.2, s_58.2.2.2.2.2.2.2.2.1, s_58.2.2.2.2.2.2.2.2.2.1 + 300, s_58.2.2.2.2.2.2.2.2.2.2 + 600)) else some (.inr (.inr 0))) else none))) else some (.inl (s_58.1 + 4, s_58.2.1, s_58.2.2.1, s_58.2.2.2.1, s_58.2.2.2.2.1, s_58.2.2.2.2.2.1, s_58.2.2.2.2.2.2.1, s_58.2.2.2.2.2.2.2.1, s_58.2.2.2.2.2.2.2.2.1, s_58.2.2.2.2.2.2.2.2.2.1, s_58.2.2.2.2.2.2.2.2.2.2))))))))))))))))))))))) else none)) else none)) yFuel (0, 0, MN0, ML0, MK0, MG0, CN0, CT0, 0, 0 + 1 + 22 + 1 + 47 + 1, 0 + 6 + 637 + 17 + 307 + 2)).bind fun b_58 => ybr b_58 (fun z_58 => (if z_58.2.2.2.2.2.2.2.2.2.1 ≤ 600002 ∧ z_58.2.2.2.2.2.2.2.2.2.2 ≤ 7302232 then some 1 else none)) (fun r => some r)))))
set_option maxHeartbeats 4000000 in
set_option maxRecDepth 100000 in
theorem kL_law (l : Launch) (D : va_G) (cy : Nat → ClassId) (hl0 : l.stackTraces = false) (b nL : Nat) (xs : Nat → Int32) {res : Int32} (hR : fL_law nL xs = some res) {p : Program} {e : Env} {s : State} {m : MethodId} {args : Array Value} {below : List Frame} {meth : Method} {c : Code} {A : Nat → Prop} {H0 : Heap} {Q : State → Prop} (C : YC p s m args c cL_law RL D cy 7 A H0) (hX : va_X b nL xs s H0) (hbl : b < H0.size) (hbA : ¬ A b) (ret : ∀ {u : List va_W} {cells slots : Nat} {lv : List (Nat × Value)} {pc : Nat} (v : Int32), v = res → cells ≤ 600002 → slots ≤ 7302232 → decode cL_law pc = .ok (.ireturn, 1) → X p l e room_1 s m args below meth c D A H0 7 Q u cells slots lv pc [.int v]) : X p l e room_1 s m args below meth c D A H0 7 Q [] 0 0 [(0, .ref b)] 0 [] := by
  unfold fL_law at hR
  refine xr_new (n := 3) (ci := 8) C tyX6 tyX6_ok in_X6 u_84 u_85 u_57 rfl [.null, .null, .null, .null, .null, .null] (by decide) (Nat.le_of_ble_eq_true rfl) (Nat.le_of_ble_eq_true rfl) dd_L_law_0.1 rfl (fun q_1 => ?_)
  refine xr_eq (bs' := [[(q_1, .inr (8, [.null, .null, .null, .null, .null, .null]))]]) rfl ?_
  refine xr_dup (n := 4) C dd_L_law_0.2.1 rfl rfl ?_
  obtain ⟨x_2, hx_2, hR⟩ := yf_b hR
  refine xr_callI (n := 7) (As := []) (rest := [.ref q_1]) C (kX6_init l D cy (x := q_1) hx_2) mX6_init u_86 u_87 rfl 1 [0] [] rfl (by decide +kernel) rfl rfl rfl rfl (Nat.le_of_ble_eq_true rfl) (Nat.le_of_ble_eq_true rfl) (Nat.le_of_ble_eq_true rfl) (Nat.le_of_ble_eq_true rfl) (Nat.le_of_ble_eq_true rfl) dd_L_law_0.2.2.1 rfl (fun v_3 u_4 hp_5 => ?_)
  obtain ⟨q_6, q_7, q_8, q_9, q_10, q_11, q_12, q_13, q_14, q_15, q_16, q_17, q_18, q_19, q_20, q_21, q_22, q_23, q_24, q_25, q_26, q_27, rfl, rfl⟩ := hp_5
  refine xr_perm C 23 [0, 1, 2, 3, 4, 5, 6, 7, 8, 9, 10, 11, 12, 13, 14, 15, 16, 17, 18, 19, 20, 21, 22] [] [[(q_1, .inr (8, [.ref q_6, .ref q_7, .ref q_8, .ref q_9, .ref q_10, .ref q_11]))], [(q_6, .inr (3, [.ref q_12, .ref q_13, .int 2, .int 2, .int 2, .int 0, .int 0]))], [(q_12, .inr (6, [.ref q_14]))], [(q_14, .inl (cy 1, 81, .inl (fun _ => 0)))], [(q_13, .inr (6, [.ref q_15]))], [(q_15, .inl (cy 1, 81, .inl (fun _ => 0)))], [(q_7, .inr (2, [.ref q_16, .ref q_17, .int 0, .int 0]))], [(q_16, .inr (6, [.ref q_18]))], [(q_18, .inl (cy 1, 81, .inl (fun _ => 0)))], [(q_17, .inr (6, [.ref q_19]))], [(q_19, .inl (cy 1, 81, .inl (fun _ => 0)))], [(q_8, .inr (5, [.ref q_20, .int 0, .int 0, .int 0]))], [(q_20, .inr (6, [.ref q_21]))], [(q_21, .inl (cy 1, 81, .inl (fun _ => 0)))], [(q_9, .inr (7, [.ref q_22, .ref q_23, .int 0, .int 0, .int 0, .int 0, .int 0, .int 0, .int 0, .int 0, .int 0]))], [(q_22, .inr (3, [.ref q_24, .ref q_25, .int 2, .int 2, .int 2, .int 0, .int 0]))], [(q_24, .inr (6, [.ref q_26]))], [(q_26, .inl (cy 1, 81, .inl (fun _ => 0)))], [(q_25, .inr (6, [.ref q_27]))], [(q_27, .inl (cy 1, 81, .inl (fun _ => 0)))], [(q_23, .inr (4, [.int 0, .int 0, .int 0, .int 0, .int 0, .int 0, .int 0, .int 0, .int 0, .int 0]))], [(q_10, .inr (4, [.int 0, .int 0, .int 0, .int 0, .int 0, .int 0, .int 0, .int 0, .int 0, .int 0]))], [(q_11, .inr (4, [.int 0, .int 0, .int 0, .int 0, .int 0, .int 0, .int 0, .int 0, .int 0, .int 0]))]] rfl (by decide +kernel) rfl ?_
  obtain ⟨z_28, rfl, rfl, rfl, rfl, rfl, rfl, rfl, rfl, rfl, rfl, rfl, rfl, rfl, rfl, rfl, rfl, rfl, rfl, rfl, rfl, rfl, rfl⟩ : ∃ z_28 : Nat → Nat, z_28 0 = q_6 ∧ z_28 1 = q_7 ∧ z_28 2 = q_8 ∧ z_28 3 = q_9 ∧ z_28 4 = q_10 ∧ z_28 5 = q_11 ∧ z_28 6 = q_12 ∧ z_28 7 = q_13 ∧ z_28 8 = q_14 ∧ z_28 9 = q_15 ∧ z_28 10 = q_16 ∧ z_28 11 = q_17 ∧ z_28 12 = q_18 ∧ z_28 13 = q_19 ∧ z_28 14 = q_20 ∧ z_28 15 = q_21 ∧ z_28 16 = q_22 ∧ z_28 17 = q_23 ∧ z_28 18 = q_24 ∧ z_28 19 = q_25 ∧ z_28 20 = q_26 ∧ z_28 21 = q_27 := ⟨fun i => match i with | 0 => q_6 | 1 => q_7 | 2 => q_8 | 3 => q_9 | 4 => q_10 | 5 => q_11 | 6 => q_12 | 7 => q_13 | 8 => q_14 | 9 => q_15 | 10 => q_16 | 11 => q_17 | 12 => q_18 | 13 => q_19 | 14 => q_20 | 15 => q_21 | 16 => q_22 | 17 => q_23 | 18 => q_24 | 19 => q_25 | 20 => q_26 | 21 => q_27 | _ => 0, rfl, rfl, rfl, rfl, rfl, rfl, rfl, rfl, rfl, rfl, rfl, rfl, rfl, rfl, rfl, rfl, rfl, rfl, rfl, rfl, rfl, rfl⟩
  refine xr_perm C 23 [0, 1, 2, 3, 4, 5, 6, 7, 8, 9, 10, 11, 12, 13, 14, 15, 16, 17, 18, 19, 20, 21, 22] [] [[(q_1, .inr (8, [.ref (z_28 0), .ref (z_28 1), .ref (z_28 2), .ref (z_28 3), .ref (z_28 4), .ref (z_28 5)]))], [((z_28 0), .inr (3, [.ref (z_28 6), .ref (z_28 7), .int 2, .int 2, .int 2, .int 0, .int 0]))], [((z_28 6), .inr (6, [.ref (z_28 8)]))], [((z_28 8), .inl (cy 1, 81, .inl (fun _ => 0)))], [((z_28 7), .inr (6, [.ref (z_28 9)]))], [((z_28 9), .inl (cy 1, 81, .inl (fun _ => 0)))], [((z_28 1), .inr (2, [.ref (z_28 10), .ref (z_28 11), .int 0, .int 0]))], [((z_28 10), .inr (6, [.ref (z_28 12)]))], [((z_28 12), .inl (cy 1, 81, .inl (fun _ => 0)))], [((z_28 11), .inr (6, [.ref (z_28 13)]))], [((z_28 13), .inl (cy 1, 81, .inl (fun _ => 0)))], [((z_28 2), .inr (5, [.ref (z_28 14), .int 0, .int 0, .int 0]))], [((z_28 14), .inr (6, [.ref (z_28 15)]))], [((z_28 15), .inl (cy 1, 81, .inl (fun _ => 0)))], [((z_28 3), .inr (7, [.ref (z_28 16), .ref (z_28 17), .int 0, .int 0, .int 0, .int 0, .int 0, .int 0, .int 0, .int 0, .int 0]))], [((z_28 16), .inr (3, [.ref (z_28 18), .ref (z_28 19), .int 2, .int 2, .int 2, .int 0, .int 0]))], [((z_28 18), .inr (6, [.ref (z_28 20)]))], [((z_28 20), .inl (cy 1, 81, .inl (fun _ => 0)))], [((z_28 19), .inr (6, [.ref (z_28 21)]))], [((z_28 21), .inl (cy 1, 81, .inl (fun _ => 0)))], [((z_28 17), .inr (4, [.int 0, .int 0, .int 0, .int 0, .int 0, .int 0, .int 0, .int 0, .int 0, .int 0]))], [((z_28 4), .inr (4, [.int 0, .int 0, .int 0, .int 0, .int 0, .int 0, .int 0, .int 0, .int 0, .int 0]))], [((z_28 5), .inr (4, [.int 0, .int 0, .int 0, .int 0, .int 0, .int 0, .int 0, .int 0, .int 0, .int 0]))]] rfl (by decide +kernel) rfl ?_
  refine xr_pack (CWL q_1 z_28 cy CN0 CT0) [] rfl ?_
  refine xr_eq (bs' := [CW q_1 z_28 cy CN0 CT0]) rfl ?_
  refine xr_astore_n (n := 8) C [(1, .ref q_1), (0, .ref b)] dd_L_law_0.2.2.2.1 (by decide) rfl rfl ?_
  refine xr_new (n := 11) (ci := 11) C tyX9 tyX9_ok in_X9 u_1188 u_1189 u_64 rfl [.int 0, .null, .null, .null, .null, .null, .int 0, .int 0, .long 0, .null, .int 0, .int 0, .int 0, .int 0, .null, .int 0, .null] (by decide) (Nat.le_of_ble_eq_true rfl) (Nat.le_of_ble_eq_true rfl) dd_L_law_0.2.2.2.2.1 rfl (fun q_29 => ?_)
  refine xr_eq (bs' := [CW q_1 z_28 cy CN0 CT0, [(q_29, .inr (11, [.int 0, .null, .null, .null, .null, .null, .int 0, .int 0, .long 0, .null, .int 0, .int 0, .int 0, .int 0, .null, .int 0, .null]))]]) rfl ?_
  refine xr_dup (n := 12) C dd_L_law_0.2.2.2.2.2.1 rfl rfl ?_
  obtain ⟨x_30, hx_30, hR⟩ := yf_b hR
  obtain rfl := iX9_init hx_30
  refine xr_callI (n := 15) (As := []) (rest := [.ref q_29]) C (kX9_init l D cy (g := q_29) hx_30) mX9_init u_1190 u_1191 rfl 2 [1] [0] rfl (by decide +kernel) rfl rfl rfl rfl (Nat.le_of_ble_eq_true rfl) (Nat.le_of_ble_eq_true rfl) (Nat.le_of_ble_eq_true rfl) (Nat.le_of_ble_eq_true rfl) (Nat.le_of_ble_eq_true rfl) dd_L_law_0.2.2.2.2.2.2.1 rfl (fun v_31 u_32 hp_33 => ?_)
  obtain ⟨q_34, q_35, q_36, q_37, q_38, q_39, q_40, q_41, q_42, q_43, q_44, q_45, q_46, q_47, q_48, q_49, q_50, rfl, rfl⟩ := hp_33
  refine xr_perm C 19 [18, 0, 1, 2, 3, 4, 5, 6, 7, 8, 9, 10, 11, 12, 13, 14, 15, 16, 17] [] [CW q_1 z_28 cy CN0 CT0, [(q_29, .inr (11, [.int rX9_init.1, .ref q_34, .ref q_35, .ref q_36, .ref q_37, .ref q_38, .int rX9_init.2.1, .int rX9_init.2.2.1, .long rX9_init.2.2.2.1, .null, .int rX9_init.2.2.2.2.1, .int rX9_init.2.2.2.2.2.1, .int rX9_init.2.2.2.2.2.2.1, .int rX9_init.2.2.2.2.2.2.2.1, .ref q_39, .int rX9_init.2.2.2.2.2.2.2.2.1, .ref q_40]))], [(q_34, .inr (10, [.int rX9_init.2.2.2.2.2.2.2.2.2.1, .int rX9_init.2.2.2.2.2.2.2.2.2.2.1, .int rX9_init.2.2.2.2.2.2.2.2.2.2.2.1, .int rX9_init.2.2.2.2.2.2.2.2.2.2.2.2.1, .int rX9_init.2.2.2.2.2.2.2.2.2.2.2.2.2.1, .ref q_41, .ref q_42]))], [(q_41, .inl (cy 3, rX9_init.2.2.2.2.2.2.2.2.2.2.2.2.2.2.1, .inr (.inr (.inr (.inr (yad q_43))))))], xg_rows q_43 rX9_init.2.2.2.2.2.2.2.2.2.2.2.2.2.2.1 (cy 1) rX9_init.2.2.2.2.2.2.2.2.2.2.2.2.2.2.2.1 rX9_init.2.2.2.2.2.2.2.2.2.2.2.2.2.2.2.2.1, [(q_42, .inl (cy 3, rX9_init.2.2.2.2.2.2.2.2.2.2.2.2.2.2.2.2.2.1, .inr (.inr (.inr (.inr (yad q_44))))))], xg_rows q_44 rX9_init.2.2.2.2.2.2.2.2.2.2.2.2.2.2.2.2.2.1 (cy 1) rX9_init.2.2.2.2.2.2.2.2.2.2.2.2.2.2.2.2.2.2.1 rX9_init.2.2.2.2.2.2.2.2.2.2.2.2.2.2.2.2.2.2.2, [(q_35, .inl (cy 4, 5, .inr (.inr (.inr (.inr (yad q_45))))))], xg_rows q_45 5 (cy 2) 5 (fun _ _ => 0), [(q_36, .inl (cy 4, 5, .inr (.inr (.inr (.inr (yad q_46))))))], xg_rows q_46 5 (cy 2) 5 (fun _ _ => 0), [(q_37, .inl (cy 3, 5, .inr (.inr (.inr (.inr (yad q_47))))))], xg_rows q_47 5 (cy 1) 5 (fun _ _ => 0), [(q_38, .inl (cy 3, 5, .inr (.inr (.inr (.inr (yad q_48))))))], xg_rows q_48 5 (cy 1) 5 (fun _ _ => 0), [(q_39, .inl (cy 3, 0, .inr (.inr (.inr (.inr (yad q_49))))))], xg_rows q_49 0 (cy 1) 0 (fun _ _ => 0), [(q_40, .inl (cy 3, 0, .inr (.inr (.inr (.inr (yad q_50))))))], xg_rows q_50 0 (cy 1) 0 (fun _ _ => 0)] rfl (by decide +kernel) rfl ?_
  obtain ⟨z_51, rfl, rfl, rfl, rfl, rfl, rfl, rfl, rfl, rfl⟩ : ∃ z_51 : Nat → Nat, z_51 0 = q_34 ∧ z_51 1 = q_35 ∧ z_51 2 = q_36 ∧ z_51 3 = q_37 ∧ z_51 4 = q_38 ∧ z_51 6 = q_39 ∧ z_51 7 = q_40 ∧ z_51 8 = q_41 ∧ z_51 9 = q_42 := ⟨fun i => match i with | 0 => q_34 | 1 => q_35 | 2 => q_36 | 3 => q_37 | 4 => q_38 | 6 => q_39 | 7 => q_40 | 8 => q_41 | 9 => q_42 | _ => 0, rfl, rfl, rfl, rfl, rfl, rfl, rfl, rfl, rfl⟩
  obtain ⟨z_52, rfl, rfl, rfl, rfl, rfl, rfl, rfl, rfl⟩ : ∃ z_52 : Nat → Nat → Nat, z_52 0 = q_43 ∧ z_52 1 = q_44 ∧ z_52 2 = q_45 ∧ z_52 3 = q_46 ∧ z_52 4 = q_47 ∧ z_52 5 = q_48 ∧ z_52 6 = q_49 ∧ z_52 7 = q_50 := ⟨fun i => match i with | 0 => q_43 | 1 => q_44 | 2 => q_45 | 3 => q_46 | 4 => q_47 | 5 => q_48 | 6 => q_49 | 7 => q_50 | _ => fun _ => 0, rfl, rfl, rfl, rfl, rfl, rfl, rfl, rfl⟩
  refine xr_perm C 19 [1, 2, 3, 4, 5, 6, 7, 8, 9, 10, 11, 12, 13, 14, 15, 16, 17, 18, 0] [] [[(q_29, .inr (11, [.int rX9_init.1, .ref (z_51 0), .ref (z_51 1), .ref (z_51 2), .ref (z_51 3), .ref (z_51 4), .int rX9_init.2.1, .int rX9_init.2.2.1, .long rX9_init.2.2.2.1, .null, .int rX9_init.2.2.2.2.1, .int rX9_init.2.2.2.2.2.1, .int rX9_init.2.2.2.2.2.2.1, .int rX9_init.2.2.2.2.2.2.2.1, .ref (z_51 6), .int rX9_init.2.2.2.2.2.2.2.2.1, .ref (z_51 7)]))], [((z_51 0), .inr (10, [.int rX9_init.2.2.2.2.2.2.2.2.2.1, .int rX9_init.2.2.2.2.2.2.2.2.2.2.1, .int rX9_init.2.2.2.2.2.2.2.2.2.2.2.1, .int rX9_init.2.2.2.2.2.2.2.2.2.2.2.2.1, .int rX9_init.2.2.2.2.2.2.2.2.2.2.2.2.2.1, .ref (z_51 8), .ref (z_51 9)]))], [((z_51 8), .inl (cy 3, rX9_init.2.2.2.2.2.2.2.2.2.2.2.2.2.2.1, .inr (.inr (.inr (.inr (yad (z_52 0)))))))], xg_rows (z_52 0) rX9_init.2.2.2.2.2.2.2.2.2.2.2.2.2.2.1 (cy 1) rX9_init.2.2.2.2.2.2.2.2.2.2.2.2.2.2.2.1 rX9_init.2.2.2.2.2.2.2.2.2.2.2.2.2.2.2.2.1, [((z_51 9), .inl (cy 3, rX9_init.2.2.2.2.2.2.2.2.2.2.2.2.2.2.2.2.2.1, .inr (.inr (.inr (.inr (yad (z_52 1)))))))], xg_rows (z_52 1) rX9_init.2.2.2.2.2.2.2.2.2.2.2.2.2.2.2.2.2.1 (cy 1) rX9_init.2.2.2.2.2.2.2.2.2.2.2.2.2.2.2.2.2.2.1 rX9_init.2.2.2.2.2.2.2.2.2.2.2.2.2.2.2.2.2.2.2, [((z_51 1), .inl (cy 4, 5, .inr (.inr (.inr (.inr (yad (z_52 2)))))))], xg_rows (z_52 2) 5 (cy 2) 5 (fun _ _ => 0), [((z_51 2), .inl (cy 4, 5, .inr (.inr (.inr (.inr (yad (z_52 3)))))))], xg_rows (z_52 3) 5 (cy 2) 5 (fun _ _ => 0), [((z_51 3), .inl (cy 3, 5, .inr (.inr (.inr (.inr (yad (z_52 4)))))))], xg_rows (z_52 4) 5 (cy 1) 5 (fun _ _ => 0), [((z_51 4), .inl (cy 3, 5, .inr (.inr (.inr (.inr (yad (z_52 5)))))))], xg_rows (z_52 5) 5 (cy 1) 5 (fun _ _ => 0), [((z_51 6), .inl (cy 3, 0, .inr (.inr (.inr (.inr (yad (z_52 6)))))))], xg_rows (z_52 6) 0 (cy 1) 0 (fun _ _ => 0), [((z_51 7), .inl (cy 3, 0, .inr (.inr (.inr (.inr (yad (z_52 7)))))))], xg_rows (z_52 7) 0 (cy 1) 0 (fun _ _ => 0), CW q_1 z_28 cy CN0 CT0] rfl (by decide +kernel) rfl ?_
  refine xr_pack (MWL q_29 z_51 z_52 cy 0 MN0 ML0 MK0 MG0) [CW q_1 z_28 cy CN0 CT0] rfl ?_
  refine xr_eq (bs' := [MW q_29 z_51 z_52 cy 0 MN0 ML0 MK0 MG0, CW q_1 z_28 cy CN0 CT0]) rfl ?_
  refine xr_astore_n (n := 16) C [(2, .ref q_29), (1, .ref q_1), (0, .ref b)] dd_L_law_0.2.2.2.2.2.2.2.1 (by decide) rfl rfl ?_
  refine xr_new (n := 19) (ci := 9) C tyX7 tyX7_ok in_X7 u_550 u_551 u_66 rfl [.long 0, .null] (by decide) (Nat.le_of_ble_eq_true rfl) (Nat.le_of_ble_eq_true rfl) dd_L_law_0.2.2.2.2.2.2.2.2.1 rfl (fun q_53 => ?_)
  refine xr_eq (bs' := [MW q_29 z_51 z_52 cy 0 MN0 ML0 MK0 MG0, CW q_1 z_28 cy CN0 CT0, [(q_53, .inr (9, [.long 0, .null]))]]) rfl ?_
  refine xr_dup (n := 20) C dd_L_law_0.2.2.2.2.2.2.2.2.2.1 rfl rfl ?_
  obtain ⟨x_54, hx_54, hR⟩ := yf_b hR
  refine xr_callINp (n := 23) (As := []) (rest := [.ref q_53]) C (kX7_init l D cy (vo := q_53) hx_54) mX7_init (host := RL) (List.mem_of_getElem? (i := 45) rfl) u_553 rfl 3 [2] [0, 1] rfl (by decide +kernel) rfl rfl rfl rfl (Nat.le_of_ble_eq_true rfl) (Nat.le_of_ble_eq_true rfl) (Nat.le_of_ble_eq_true rfl) (Nat.le_of_ble_eq_true rfl) (Nat.le_of_ble_eq_true rfl) dd_L_law_0.2.2.2.2.2.2.2.2.2.2.1 rfl (fun _ _ hp => hp.2) (fun v_55 hp_57 => ?_)
  obtain ⟨rfl, -⟩ := hp_57
  refine xr_astore_n (n := 24) C [(3, .ref q_53), (2, .ref q_29), (1, .ref q_1), (0, .ref b)] dd_L_law_0.2.2.2.2.2.2.2.2.2.2.2.1 (by decide) rfl rfl ?_
  refine xr_iconst (n := 25) (v := 0) C dd_L_law_0.2.2.2.2.2.2.2.2.2.2.2.2.1 rfl rfl ?_
  refine xr_istore (n := 27) C [(4, .int 0), (3, .ref q_53), (2, .ref q_29), (1, .ref q_1), (0, .ref b)] dd_L_law_0.2.2.2.2.2.2.2.2.2.2.2.2.2.1 (by decide) rfl rfl ?_
  refine xr_lv (lv' := [(0, .ref b), (1, .ref q_1), (2, .ref q_29), (3, .ref q_53), (4, .int 0)]) [4, 3, 2, 1, 0] rfl ?_
  obtain ⟨b_58, hb_58, hR⟩ := yf_b hR
  have K_58 : ∀ z_58, b_58 = .inl z_58 → ∀ a0_58 : Nat → Nat, ∀ a1_58 : Nat → Nat → Nat, ∀ a2_58 : Value, X p l e room_1 s m args below meth c D A H0 7 Q [MW q_29 a0_58 a1_58 cy z_58.2.1 z_58.2.2.1 z_58.2.2.2.1 z_58.2.2.2.2.1 z_58.2.2.2.2.2.1, CW q_1 z_28 cy z_58.2.2.2.2.2.2.1 z_58.2.2.2.2.2.2.2.1, [(q_53, .inr (9, [.long z_58.2.2.2.2.2.2.2.2.1, a2_58]))]] z_58.2.2.2.2.2.2.2.2.2.1 z_58.2.2.2.2.2.2.2.2.2.2 [] 1396 [] := by
    intro z_58 e_58; subst e_58; replace hR := ybr_l hR
    intro a0_58 a1_58 a2_58
    obtain ⟨g_59, hR⟩ := yf_g hR
    refine xr_iconst (n := 1397) (v := 1) C dd_L_law_49.2.2.2.2.2.2.2.2.2.2.2.2.2.2.2.1 rfl rfl ?_
    obtain rfl := Option.some.inj hR
    exact ret 1 rfl g_59.1 g_59.2 dd_L_law_50.1
  refine y_loop (P := fun (s_58 : Int32 × Nat × (Nat → Int32) × Int64 × (Nat → Nat) × (Nat → Nat → Nat → Int32) × (Nat → Int32) × (Nat → Nat → Int32) × Int64 × Nat × Nat) => ∀ a0_58 : Nat → Nat, ∀ a1_58 : Nat → Nat → Nat, ∀ a2_58 : Value, X p l e room_1 s m args below meth c D A H0 7 Q [MW q_29 a0_58 a1_58 cy s_58.2.1 s_58.2.2.1 s_58.2.2.2.1 s_58.2.2.2.2.1 s_58.2.2.2.2.2.1, CW q_1 z_28 cy s_58.2.2.2.2.2.2.1 s_58.2.2.2.2.2.2.2.1, [(q_53, .inr (9, [.long s_58.2.2.2.2.2.2.2.2.1, a2_58]))]] s_58.2.2.2.2.2.2.2.2.2.1 s_58.2.2.2.2.2.2.2.2.2.2 [(0, .ref b), (1, .ref q_1), (2, .ref q_29), (3, .ref q_53), (4, .int s_58.1)] 27 []) ?_ _ (0, 0, MN0, ML0, MK0, MG0, CN0, CT0, 0, 0 + 1 + 22 + 1 + 47 + 1, 0 + 6 + 637 + 17 + 307 + 2) hb_58 z_51 z_52 .null
  intro s_58 o_58 ho_58 hk_58 hx_58 a0_58 a1_58 a2_58
  obtain ⟨g_60, ho_58⟩ := yf_g ho_58
  refine xr_iload (n := 29) (j := 4) C dd_L_law_0.2.2.2.2.2.2.2.2.2.2.2.2.2.2.1 rfl rfl ?_
  refine xr_aload_n (n := 30) (j := 0) C dd_L_law_0.2.2.2.2.2.2.2.2.2.2.2.2.2.2.2.1 rfl rfl ?_
  refine xr_slen (n := 31) C hX hbl hbA dd_L_law_1.1 rfl ?_
  refine xr_iconst (n := 32) (v := 4) C dd_L_law_1.2.1 rfl rfl ?_
  refine xr_isub (n := 33) C dd_L_law_1.2.2.1 rfl ?_
  refine xr_icmp_gt (tgt := 1396) (n := 36) C dd_L_law_1.2.2.2.1 rfl rfl (fun c_61 => ?_) (fun c_61 => ?_)
  · replace ho_58 := yf_t c_61 ho_58
    refine xr_lv (lv' := []) [] rfl ?_
    have e_62 := hx_58 _ (Option.some.inj ho_58).symm
    exact K_58 (s_58.1, s_58.2.1, s_58.2.2.1, s_58.2.2.2.1, s_58.2.2.2.2.1, s_58.2.2.2.2.2.1, s_58.2.2.2.2.2.2.1, s_58.2.2.2.2.2.2.2.1, s_58.2.2.2.2.2.2.2.2.1, s_58.2.2.2.2.2.2.2.2.2.1, s_58.2.2.2.2.2.2.2.2.2.2) e_62.symm a0_58 a1_58 a2_58
  · replace ho_58 := yf_f c_61 ho_58
    refine xr_aload_n (n := 37) (j := 0) C dd_L_law_1.2.2.2.2.1 rfl rfl ?_
    refine xr_iload (n := 39) (j := 4) C dd_L_law_1.2.2.2.2.2.1 rfl rfl ?_
    obtain ⟨g_63, ho_58⟩ := yf_g ho_58
    refine xr_sld (n := 40) C hX hbl hbA g_63 dd_L_law_1.2.2.2.2.2.2.1 rfl ?_
    refine xr_bipush (n := 42) (v := 31) C dd_L_law_1.2.2.2.2.2.2.2.1 rfl rfl ?_
    refine xr_iand (n := 43) C dd_L_law_1.2.2.2.2.2.2.2.2.1 rfl ?_
    by_cases c_64 : ((xs s_58.1.toNatClampNeg) &&& 31) = 0
    · replace ho_58 := yf_t c_64 ho_58
      refine xr_tableIn (off := 97) (tgt := 140) C dL_law_43 (by rw [c_64]; decide) (by rw [c_64]; decide) (by rw [c_64]; decide) rfl ?_
      refine xr_aload_n (n := 141) (j := 1) C dd_L_law_1.2.2.2.2.2.2.2.2.2.1 rfl rfl ?_
      refine xr_aload_n (n := 142) (j := 0) C dd_L_law_1.2.2.2.2.2.2.2.2.2.2.1 rfl rfl ?_
      refine xr_iload (n := 144) (j := 4) C dd_L_law_1.2.2.2.2.2.2.2.2.2.2.2.1 rfl rfl ?_
      refine xr_iconst (n := 145) (v := 1) C dd_L_law_1.2.2.2.2.2.2.2.2.2.2.2.2.1 rfl rfl ?_
      refine xr_iadd (n := 146) C dd_L_law_1.2.2.2.2.2.2.2.2.2.2.2.2.2.1 rfl ?_
      obtain ⟨g_65, ho_58⟩ := yf_g ho_58
      refine xr_sld (n := 147) C hX hbl hbA g_65 dd_L_law_1.2.2.2.2.2.2.2.2.2.2.2.2.2.2.1 rfl ?_
      refine xr_aload_n (n := 148) (j := 0) C dd_L_law_1.2.2.2.2.2.2.2.2.2.2.2.2.2.2.2.1 rfl rfl ?_
      refine xr_iload (n := 150) (j := 4) C dd_L_law_2.1 rfl rfl ?_
      refine xr_iconst (n := 151) (v := 2) C dd_L_law_2.2.1 rfl rfl ?_
      refine xr_iadd (n := 152) C dd_L_law_2.2.2.1 rfl ?_
      obtain ⟨g_66, ho_58⟩ := yf_g ho_58
      refine xr_sld (n := 153) C hX hbl hbA g_66 dd_L_law_2.2.2.2.1 rfl ?_
      refine xr_aload_n (n := 154) (j := 0) C dd_L_law_2.2.2.2.2.1 rfl rfl ?_
      refine xr_iload (n := 156) (j := 4) C dd_L_law_2.2.2.2.2.2.1 rfl rfl ?_
      refine xr_iconst (n := 157) (v := 3) C dd_L_law_2.2.2.2.2.2.2.1 rfl rfl ?_
      refine xr_iadd (n := 158) C dd_L_law_2.2.2.2.2.2.2.2.1 rfl ?_
      obtain ⟨g_67, ho_58⟩ := yf_g ho_58
      refine xr_sld (n := 159) C hX hbl hbA g_67 dd_L_law_2.2.2.2.2.2.2.2.2.1 rfl ?_
      refine xr_aload_n (n := 160) (j := 3) C dd_L_law_2.2.2.2.2.2.2.2.2.2.1 rfl rfl ?_
      obtain ⟨x_68, hx_68, ho_58⟩ := yf_b ho_58
      obtain ⟨g_69, ho_58⟩ := yf_g ho_58
      refine xr_callSW (n := 163) (As := [.ref q_1, .int (xs (s_58.1 + 1).toNatClampNeg), .int (xs (s_58.1 + 2).toNatClampNeg), .int (xs (s_58.1 + 3).toNatClampNeg), .ref q_53]) (rest := []) C (kgL_shape l D cy hl0 (x := q_1) (a := z_28) (o := q_53) (os := a2_58) (n := s_58.2.2.2.2.2.2.1) (t := s_58.2.2.2.2.2.2.2.1) (on := s_58.2.2.2.2.2.2.2.2.1) (i1 := xs (s_58.1 + 1).toNatClampNeg) (i2 := xs (s_58.1 + 2).toNatClampNeg) (i3 := xs (s_58.1 + 3).toNatClampNeg) hx_68) mL_shape u_563 u_564 3 [1, 2] [0] rfl (by decide +kernel) rfl rfl rfl rfl (Nat.le_of_ble_eq_true rfl) (Nat.le_of_ble_eq_true rfl) (Nat.le_of_ble_eq_true rfl) g_69.1 g_69.2 dd_L_law_2.2.2.2.2.2.2.2.2.2.2.1 rfl (fun v_70 u_71 hp_72 => ?_)
      obtain ⟨q_73, rfl, rfl⟩ := hp_72
      refine xr_perm C 3 [2, 0, 1] [] [MW q_29 a0_58 a1_58 cy s_58.2.1 s_58.2.2.1 s_58.2.2.2.1 s_58.2.2.2.2.1 s_58.2.2.2.2.2.1, CW q_1 z_28 cy x_68.2.1 x_68.2.2.1, [(q_53, .inr (9, [.long x_68.2.2.2, q_73]))]] rfl (by decide +kernel) rfl ?_
      refine xr_st (st' := [.int x_68.1]) rfl ?_
      refine xr_istore (n := 165) C [(5, .int x_68.1), (0, .ref b), (1, .ref q_1), (2, .ref q_29), (3, .ref q_53), (4, .int s_58.1)] dd_L_law_2.2.2.2.2.2.2.2.2.2.2.2.1 (by decide) rfl rfl ?_
      refine xr_aload_n (n := 166) (j := 3) C dd_L_law_2.2.2.2.2.2.2.2.2.2.2.2.2.1 rfl rfl ?_
      refine xr_aload_n (n := 167) (j := 1) C dd_L_law_2.2.2.2.2.2.2.2.2.2.2.2.2.2.1 rfl rfl ?_
      refine xr_iload (n := 169) (j := 5) C dd_L_law_2.2.2.2.2.2.2.2.2.2.2.2.2.2.2.1 rfl rfl ?_
      refine xr_iconst (n := 170) (v := 1) C dd_L_law_2.2.2.2.2.2.2.2.2.2.2.2.2.2.2.2.1 rfl rfl ?_
      refine xr_iadd (n := 171) C dd_L_law_3.1 rfl ?_
      obtain ⟨g_74, ho_58⟩ := yf_g ho_58
      refine xr_sld (n := 172) C hX hbl hbA g_74 dd_L_law_3.2.1 rfl ?_
      refine xr_aload_n (n := 173) (j := 1) C dd_L_law_3.2.2.1 rfl rfl ?_
      refine xr_iload (n := 175) (j := 5) C dd_L_law_3.2.2.2.1 rfl rfl ?_
      refine xr_iconst (n := 176) (v := 2) C dd_L_law_3.2.2.2.2.1 rfl rfl ?_
      refine xr_iadd (n := 177) C dd_L_law_3.2.2.2.2.2.1 rfl ?_
      obtain ⟨g_75, ho_58⟩ := yf_g ho_58
      refine xr_sld (n := 178) C hX hbl hbA g_75 dd_L_law_3.2.2.2.2.2.2.1 rfl ?_
      refine xr_aload_n (n := 179) (j := 1) C dd_L_law_3.2.2.2.2.2.2.2.1 rfl rfl ?_
      refine xr_iload (n := 181) (j := 5) C dd_L_law_3.2.2.2.2.2.2.2.2.1 rfl rfl ?_
      refine xr_iconst (n := 182) (v := 3) C dd_L_law_3.2.2.2.2.2.2.2.2.2.1 rfl rfl ?_
      refine xr_iadd (n := 183) C dd_L_law_3.2.2.2.2.2.2.2.2.2.2.1 rfl ?_
      obtain ⟨g_76, ho_58⟩ := yf_g ho_58
      refine xr_sld (n := 184) C hX hbl hbA g_76 dd_L_law_3.2.2.2.2.2.2.2.2.2.2.2.1 rfl ?_
      obtain ⟨x_77, hx_77, ho_58⟩ := yf_b ho_58
      obtain ⟨g_78, ho_58⟩ := yf_g ho_58
      refine xr_callVP (n := 187) (As := [.int (xs (s_58.1 + 1).toNatClampNeg), .int (xs (s_58.1 + 2).toNatClampNeg), .int (xs (s_58.1 + 3).toNatClampNeg)]) (rest := []) C (kgX9w_shape l D cy (g := q_29) (a := a0_58) (ad := a1_58) (sh := s_58.2.1) (n := s_58.2.2.1) (L := s_58.2.2.2.1) (k := s_58.2.2.2.2.1) (G := s_58.2.2.2.2.2.1) (i1 := xs (s_58.1 + 1).toNatClampNeg) (i2 := xs (s_58.1 + 2).toNatClampNeg) (i3 := xs (s_58.1 + 3).toNatClampNeg) hx_77) mX9_shape u_1294 u_1295 u_1296 0 rfl (MW_head _ _ _ _ _ _ _ _ _) rfl 3 [0] [1, 2] rfl (by decide +kernel) rfl rfl rfl rfl (Nat.le_of_ble_eq_true rfl) (Nat.le_of_ble_eq_true rfl) (Nat.le_of_ble_eq_true rfl) g_78.1 g_78.2 dd_L_law_3.2.2.2.2.2.2.2.2.2.2.2.2.1 rfl (fun v_79 u_80 hp_81 => ?_)
      obtain ⟨q_82, q_83, rfl, rfl⟩ := hp_81
      refine xr_perm C 3 [0, 1, 2] [] [MW q_29 q_82 q_83 cy x_77.2.1 x_77.2.2.1 x_77.2.2.2.1 x_77.2.2.2.2.1 x_77.2.2.2.2.2, CW q_1 z_28 cy x_68.2.1 x_68.2.2.1, [(q_53, .inr (9, [.long x_68.2.2.2, q_73]))]] rfl (by decide +kernel) rfl ?_
      refine xr_st (st' := [.int x_77.1]) rfl ?_
      refine xr_istore (n := 189) C [(6, .int x_77.1), (5, .int x_68.1), (0, .ref b), (1, .ref q_1), (2, .ref q_29), (3, .ref q_53), (4, .int s_58.1)] dd_L_law_3.2.2.2.2.2.2.2.2.2.2.2.2.2.1 (by decide) rfl rfl ?_
      refine xr_aload_n (n := 190) (j := 4) C dd_L_law_3.2.2.2.2.2.2.2.2.2.2.2.2.2.2.1 rfl rfl ?_
      obtain ⟨x_84, hx_84, ho_58⟩ := yf_b ho_58
      refine xr_callVP (n := 193) (As := []) (rest := []) C (kgX9w_thrown l D cy (g := q_29) (a := q_82) (ad := q_83) (sh := x_77.2.1) (n := x_77.2.2.1) (L := x_77.2.2.2.1) (k := x_77.2.2.2.2.1) (G := x_77.2.2.2.2.2) hx_84) mX9_thrown u_1290 u_1291 u_1292 0 rfl (MW_head _ _ _ _ _ _ _ _ _) rfl 3 [0] [1, 2] rfl (by decide +kernel) rfl rfl rfl rfl (Nat.le_of_ble_eq_true rfl) (Nat.le_of_ble_eq_true rfl) (Nat.le_of_ble_eq_true rfl) g_78.1 g_78.2 dd_L_law_3.2.2.2.2.2.2.2.2.2.2.2.2.2.2.2.1 rfl (fun v_85 u_86 hp_87 => ?_)
      obtain ⟨q_88, q_89, rfl, rfl⟩ := hp_87
      refine xr_perm C 3 [0, 1, 2] [] [MW q_29 q_88 q_89 cy x_84.2.1 x_84.2.2.1 x_84.2.2.2.1 x_84.2.2.2.2.1 x_84.2.2.2.2.2, CW q_1 z_28 cy x_68.2.1 x_68.2.2.1, [(q_53, .inr (9, [.long x_68.2.2.2, q_73]))]] rfl (by decide +kernel) rfl ?_
      refine xr_st (st' := [.int x_84.1]) rfl ?_
      refine xr_iload (n := 195) (j := 1) C dd_L_law_4.1 rfl rfl ?_
      refine xr_icmp_eq (tgt := 200) (n := 198) C dd_L_law_4.2.1 rfl rfl (fun c_90 => ?_) (fun c_90 => ?_)
      · replace ho_58 := yf_t c_90 ho_58
        refine xr_iload (n := 202) (j := 1) C dd_L_law_4.2.2.2.2.1 rfl rfl ?_
        refine xr_if_ne (tgt := 218) (n := 205) C dd_L_law_4.2.2.2.2.2.1 rfl rfl (fun c_91 => ?_) (fun c_91 => ?_)
        · replace ho_58 := yf_f c_91 ho_58
          refine xr_goto (tgt := 1390) C dd_L_law_4.2.2.2.2.2.2.2.2.2.2.2.2.2.2.1 rfl ?_
          refine xr_iinc (j := 6) (v := s_58.1 + 4) (n := 1393) C [(4, .int (s_58.1 + 4)), (6, .int x_77.1), (5, .int x_68.1), (0, .ref b), (1, .ref q_1), (2, .ref q_29), (3, .ref q_53)] dd_L_law_49.2.2.2.2.2.2.2.2.2.2.2.2.2.1 rfl rfl (by decide) rfl rfl ?_
          refine xr_goto (tgt := 27) C dd_L_law_49.2.2.2.2.2.2.2.2.2.2.2.2.2.2.1 rfl ?_
          refine xr_lv (lv' := [(0, .ref b), (1, .ref q_1), (2, .ref q_29), (3, .ref q_53), (4, .int (s_58.1 + 4))]) [3, 4, 5, 6, 0] rfl ?_
          exact hk_58 (s_58.1 + 4, x_84.2.1, x_84.2.2.1, x_84.2.2.2.1, x_84.2.2.2.2.1, x_84.2.2.2.2.2, x_68.2.1, x_68.2.2.1, x_68.2.2.2, s_58.2.2.2.2.2.2.2.2.2.1 + 1 + 20, s_58.2.2.2.2.2.2.2.2.2.2 + 6 + 180) (Option.some.inj ho_58).symm q_88 q_89 q_73
        · replace ho_58 := yf_t c_91 ho_58
          refine xr_aload_n (n := 206) (j := 5) C dd_L_law_4.2.2.2.2.2.2.1 rfl rfl ?_
          refine xr_getN (n := 209) C 2 rfl rfl 0 (by decide) in_X7 RL (List.mem_of_getElem? (i := 46) rfl) rfl (v := .long x_68.2.2.2) rfl dd_L_law_4.2.2.2.2.2.2.2.1 rfl ?_
          refine xr_iload (n := 211) (j := 0) C dd_L_law_4.2.2.2.2.2.2.2.2.1 rfl rfl ?_
          refine xr_i2l (n := 212) C dd_L_law_4.2.2.2.2.2.2.2.2.2.1 rfl ?_
          refine xr_lcmp (n := 213) C dd_L_law_4.2.2.2.2.2.2.2.2.2.2.1 rfl ?_
          refine xr_if_eq (tgt := 218) (n := 216) C dd_L_law_4.2.2.2.2.2.2.2.2.2.2.2.1 rfl rfl (fun c_92 => ?_) (fun c_92 => ?_)
          · replace ho_58 := yf_t c_92 ho_58
            refine xr_goto (tgt := 1390) C dd_L_law_4.2.2.2.2.2.2.2.2.2.2.2.2.2.2.1 rfl ?_
            refine xr_iinc (j := 6) (v := s_58.1 + 4) (n := 1393) C [(4, .int (s_58.1 + 4)), (6, .int x_77.1), (5, .int x_68.1), (0, .ref b), (1, .ref q_1), (2, .ref q_29), (3, .ref q_53)] dd_L_law_49.2.2.2.2.2.2.2.2.2.2.2.2.2.1 rfl rfl (by decide) rfl rfl ?_
            refine xr_goto (tgt := 27) C dd_L_law_49.2.2.2.2.2.2.2.2.2.2.2.2.2.2.1 rfl ?_
            refine xr_lv (lv' := [(0, .ref b), (1, .ref q_1), (2, .ref q_29), (3, .ref q_53), (4, .int (s_58.1 + 4))]) [3, 4, 5, 6, 0] rfl ?_
            exact hk_58 (s_58.1 + 4, x_84.2.1, x_84.2.2.1, x_84.2.2.2.1, x_84.2.2.2.2.1, x_84.2.2.2.2.2, x_68.2.1, x_68.2.2.1, x_68.2.2.2, s_58.2.2.2.2.2.2.2.2.2.1 + 1 + 20, s_58.2.2.2.2.2.2.2.2.2.2 + 6 + 180) (Option.some.inj ho_58).symm q_88 q_89 q_73
          · replace ho_58 := yf_f c_92 ho_58
            refine xr_iconst (n := 217) (v := 0) C dd_L_law_4.2.2.2.2.2.2.2.2.2.2.2.2.1 rfl rfl ?_
            have e_93 := hx_58 _ (Option.some.inj ho_58).symm
            subst e_93
            replace hR := ybr_r hR
            obtain rfl := Option.some.inj hR
            exact ret 0 rfl g_78.1 g_78.2 dd_L_law_4.2.2.2.2.2.2.2.2.2.2.2.2.2.1
      · replace ho_58 := yf_f c_90 ho_58
        refine xr_iconst (n := 199) (v := 0) C dd_L_law_4.2.2.1 rfl rfl ?_
        have e_94 := hx_58 _ (Option.some.inj ho_58).symm
        subst e_94
        replace hR := ybr_r hR
        obtain rfl := Option.some.inj hR
        exact ret 0 rfl g_78.1 g_78.2 dd_L_law_4.2.2.2.1
    replace ho_58 := yf_f c_64 ho_58
    by_cases c_95 : ((xs s_58.1.toNatClampNeg) &&& 31) = 1
    · replace ho_58 := yf_t c_95 ho_58
      refine xr_tableIn (off := 178) (tgt := 221) C dL_law_43 (by rw [c_95]; decide) (by rw [c_95]; decide) (by rw [c_95]; decide) rfl ?_
      refine xr_aload_n (n := 222) (j := 1) C dd_L_law_4.2.2.2.2.2.2.2.2.2.2.2.2.2.2.2.1 rfl rfl ?_
      refine xr_aload_n (n := 223) (j := 0) C dd_L_law_5.1 rfl rfl ?_
      refine xr_iload (n := 225) (j := 4) C dd_L_law_5.2.1 rfl rfl ?_
      refine xr_iconst (n := 226) (v := 1) C dd_L_law_5.2.2.1 rfl rfl ?_
      refine xr_iadd (n := 227) C dd_L_law_5.2.2.2.1 rfl ?_
      obtain ⟨g_96, ho_58⟩ := yf_g ho_58
      refine xr_sld (n := 228) C hX hbl hbA g_96 dd_L_law_5.2.2.2.2.1 rfl ?_
      refine xr_aload_n (n := 229) (j := 0) C dd_L_law_5.2.2.2.2.2.1 rfl rfl ?_
      refine xr_iload (n := 231) (j := 4) C dd_L_law_5.2.2.2.2.2.2.1 rfl rfl ?_
      refine xr_iconst (n := 232) (v := 2) C dd_L_law_5.2.2.2.2.2.2.2.1 rfl rfl ?_
      refine xr_iadd (n := 233) C dd_L_law_5.2.2.2.2.2.2.2.2.1 rfl ?_
      obtain ⟨g_97, ho_58⟩ := yf_g ho_58
      refine xr_sld (n := 234) C hX hbl hbA g_97 dd_L_law_5.2.2.2.2.2.2.2.2.2.1 rfl ?_
      refine xr_aload_n (n := 235) (j := 0) C dd_L_law_5.2.2.2.2.2.2.2.2.2.2.1 rfl rfl ?_
      refine xr_iload (n := 237) (j := 4) C dd_L_law_5.2.2.2.2.2.2.2.2.2.2.2.1 rfl rfl ?_
      refine xr_iconst (n := 238) (v := 3) C dd_L_law_5.2.2.2.2.2.2.2.2.2.2.2.2.1 rfl rfl ?_
      refine xr_iadd (n := 239) C dd_L_law_5.2.2.2.2.2.2.2.2.2.2.2.2.2.1 rfl ?_
      obtain ⟨g_98, ho_58⟩ := yf_g ho_58
      refine xr_sld (n := 240) C hX hbl hbA g_98 dd_L_law_5.2.2.2.2.2.2.2.2.2.2.2.2.2.2.1 rfl ?_
      refine xr_aload_n (n := 241) (j := 3) C dd_L_law_5.2.2.2.2.2.2.2.2.2.2.2.2.2.2.2.1 rfl rfl ?_
      obtain ⟨x_99, hx_99, ho_58⟩ := yf_b ho_58
      obtain ⟨g_100, ho_58⟩ := yf_g ho_58
      refine xr_callSW (n := 244) (As := [.ref q_1, .int (xs (s_58.1 + 1).toNatClampNeg), .int (xs (s_58.1 + 2).toNatClampNeg), .int (xs (s_58.1 + 3).toNatClampNeg), .ref q_53]) (rest := []) C (kgL_left l D cy hl0 (x := q_1) (a := z_28) (o := q_53) (os := a2_58) (n := s_58.2.2.2.2.2.2.1) (t := s_58.2.2.2.2.2.2.2.1) (on := s_58.2.2.2.2.2.2.2.2.1) (i1 := xs (s_58.1 + 1).toNatClampNeg) (i2 := xs (s_58.1 + 2).toNatClampNeg) (i3 := xs (s_58.1 + 3).toNatClampNeg) hx_99) mL_left u_651 u_652 3 [1, 2] [0] rfl (by decide +kernel) rfl rfl rfl rfl (Nat.le_of_ble_eq_true rfl) (Nat.le_of_ble_eq_true rfl) (Nat.le_of_ble_eq_true rfl) g_100.1 g_100.2 dd_L_law_6.1 rfl (fun v_101 u_102 hp_103 => ?_)
      obtain ⟨q_104, rfl, rfl⟩ := hp_103
      refine xr_perm C 3 [2, 0, 1] [] [MW q_29 a0_58 a1_58 cy s_58.2.1 s_58.2.2.1 s_58.2.2.2.1 s_58.2.2.2.2.1 s_58.2.2.2.2.2.1, CW q_1 z_28 cy x_99.2.1 x_99.2.2.1, [(q_53, .inr (9, [.long x_99.2.2.2, q_104]))]] rfl (by decide +kernel) rfl ?_
      refine xr_st (st' := [.int x_99.1]) rfl ?_
      refine xr_istore (n := 246) C [(5, .int x_99.1), (0, .ref b), (1, .ref q_1), (2, .ref q_29), (3, .ref q_53), (4, .int s_58.1)] dd_L_law_6.2.1 (by decide) rfl rfl ?_
      refine xr_aload_n (n := 247) (j := 3) C dd_L_law_6.2.2.1 rfl rfl ?_
      refine xr_aload_n (n := 248) (j := 1) C dd_L_law_6.2.2.2.1 rfl rfl ?_
      refine xr_iload (n := 250) (j := 5) C dd_L_law_6.2.2.2.2.1 rfl rfl ?_
      refine xr_iconst (n := 251) (v := 1) C dd_L_law_6.2.2.2.2.2.1 rfl rfl ?_
      refine xr_iadd (n := 252) C dd_L_law_6.2.2.2.2.2.2.1 rfl ?_
      obtain ⟨g_105, ho_58⟩ := yf_g ho_58
      refine xr_sld (n := 253) C hX hbl hbA g_105 dd_L_law_6.2.2.2.2.2.2.2.1 rfl ?_
      refine xr_aload_n (n := 254) (j := 1) C dd_L_law_6.2.2.2.2.2.2.2.2.1 rfl rfl ?_
      refine xr_iload (n := 256) (j := 5) C dd_L_law_6.2.2.2.2.2.2.2.2.2.1 rfl rfl ?_
      refine xr_iconst (n := 257) (v := 2) C dd_L_law_6.2.2.2.2.2.2.2.2.2.2.1 rfl rfl ?_
      refine xr_iadd (n := 258) C dd_L_law_6.2.2.2.2.2.2.2.2.2.2.2.1 rfl ?_
      obtain ⟨g_106, ho_58⟩ := yf_g ho_58
      refine xr_sld (n := 259) C hX hbl hbA g_106 dd_L_law_6.2.2.2.2.2.2.2.2.2.2.2.2.1 rfl ?_
      refine xr_aload_n (n := 260) (j := 1) C dd_L_law_6.2.2.2.2.2.2.2.2.2.2.2.2.2.1 rfl rfl ?_
      refine xr_iload (n := 262) (j := 5) C dd_L_law_6.2.2.2.2.2.2.2.2.2.2.2.2.2.2.1 rfl rfl ?_
      refine xr_iconst (n := 263) (v := 3) C dd_L_law_6.2.2.2.2.2.2.2.2.2.2.2.2.2.2.2.1 rfl rfl ?_
      refine xr_iadd (n := 264) C dd_L_law_7.1 rfl ?_
      obtain ⟨g_107, ho_58⟩ := yf_g ho_58
      refine xr_sld (n := 265) C hX hbl hbA g_107 dd_L_law_7.2.1 rfl ?_
      obtain ⟨x_108, hx_108, ho_58⟩ := yf_b ho_58
      refine xr_callVP (n := 268) (As := [.int (xs (s_58.1 + 1).toNatClampNeg), .int (xs (s_58.1 + 2).toNatClampNeg), .int (xs (s_58.1 + 3).toNatClampNeg)]) (rest := []) C (kgX9w_left l D cy (g := q_29) (a := a0_58) (ad := a1_58) (sh := s_58.2.1) (n := s_58.2.2.1) (L := s_58.2.2.2.1) (k := s_58.2.2.2.2.1) (G := s_58.2.2.2.2.2.1) (i1 := xs (s_58.1 + 1).toNatClampNeg) (i2 := xs (s_58.1 + 2).toNatClampNeg) (i3 := xs (s_58.1 + 3).toNatClampNeg) hx_108) mX9_left u_1315 u_1316 u_1317 0 rfl (MW_head _ _ _ _ _ _ _ _ _) rfl 3 [0] [1, 2] rfl (by decide +kernel) rfl rfl rfl rfl (Nat.le_of_ble_eq_true rfl) (Nat.le_of_ble_eq_true rfl) (Nat.le_of_ble_eq_true rfl) g_100.1 g_100.2 dd_L_law_7.2.2.1 rfl (fun v_109 u_110 hp_111 => ?_)
      obtain ⟨q_112, q_113, rfl, rfl⟩ := hp_111
      refine xr_perm C 3 [0, 1, 2] [] [MW q_29 q_112 q_113 cy x_108.2.1 x_108.2.2.1 x_108.2.2.2.1 x_108.2.2.2.2.1 x_108.2.2.2.2.2, CW q_1 z_28 cy x_99.2.1 x_99.2.2.1, [(q_53, .inr (9, [.long x_99.2.2.2, q_104]))]] rfl (by decide +kernel) rfl ?_
      refine xr_st (st' := [.int x_108.1]) rfl ?_
      refine xr_istore (n := 270) C [(6, .int x_108.1), (5, .int x_99.1), (0, .ref b), (1, .ref q_1), (2, .ref q_29), (3, .ref q_53), (4, .int s_58.1)] dd_L_law_7.2.2.2.1 (by decide) rfl rfl ?_
      refine xr_aload_n (n := 271) (j := 4) C dd_L_law_7.2.2.2.2.1 rfl rfl ?_
      obtain ⟨x_114, hx_114, ho_58⟩ := yf_b ho_58
      refine xr_callVP (n := 274) (As := []) (rest := []) C (kgX9w_thrown l D cy (g := q_29) (a := q_112) (ad := q_113) (sh := x_108.2.1) (n := x_108.2.2.1) (L := x_108.2.2.2.1) (k := x_108.2.2.2.2.1) (G := x_108.2.2.2.2.2) hx_114) mX9_thrown u_1290 u_1291 u_1292 0 rfl (MW_head _ _ _ _ _ _ _ _ _) rfl 3 [0] [1, 2] rfl (by decide +kernel) rfl rfl rfl rfl (Nat.le_of_ble_eq_true rfl) (Nat.le_of_ble_eq_true rfl) (Nat.le_of_ble_eq_true rfl) g_100.1 g_100.2 dd_L_law_7.2.2.2.2.2.1 rfl (fun v_115 u_116 hp_117 => ?_)
      obtain ⟨q_118, q_119, rfl, rfl⟩ := hp_117
      refine xr_perm C 3 [0, 1, 2] [] [MW q_29 q_118 q_119 cy x_114.2.1 x_114.2.2.1 x_114.2.2.2.1 x_114.2.2.2.2.1 x_114.2.2.2.2.2, CW q_1 z_28 cy x_99.2.1 x_99.2.2.1, [(q_53, .inr (9, [.long x_99.2.2.2, q_104]))]] rfl (by decide +kernel) rfl ?_
      refine xr_st (st' := [.int x_114.1]) rfl ?_
      refine xr_iload (n := 276) (j := 1) C dd_L_law_7.2.2.2.2.2.2.1 rfl rfl ?_
      refine xr_icmp_eq (tgt := 281) (n := 279) C dd_L_law_7.2.2.2.2.2.2.2.1 rfl rfl (fun c_120 => ?_) (fun c_120 => ?_)
      · replace ho_58 := yf_t c_120 ho_58
        refine xr_iload (n := 283) (j := 1) C dd_L_law_7.2.2.2.2.2.2.2.2.2.2.1 rfl rfl ?_
        refine xr_if_ne (tgt := 299) (n := 286) C dd_L_law_7.2.2.2.2.2.2.2.2.2.2.2.1 rfl rfl (fun c_121 => ?_) (fun c_121 => ?_)
        · replace ho_58 := yf_f c_121 ho_58
          refine xr_goto (tgt := 1390) C dd_L_law_8.2.2.2.2.1 rfl ?_
          refine xr_iinc (j := 6) (v := s_58.1 + 4) (n := 1393) C [(4, .int (s_58.1 + 4)), (6, .int x_108.1), (5, .int x_99.1), (0, .ref b), (1, .ref q_1), (2, .ref q_29), (3, .ref q_53)] dd_L_law_49.2.2.2.2.2.2.2.2.2.2.2.2.2.1 rfl rfl (by decide) rfl rfl ?_
          refine xr_goto (tgt := 27) C dd_L_law_49.2.2.2.2.2.2.2.2.2.2.2.2.2.2.1 rfl ?_
          refine xr_lv (lv' := [(0, .ref b), (1, .ref q_1), (2, .ref q_29), (3, .ref q_53), (4, .int (s_58.1 + 4))]) [3, 4, 5, 6, 0] rfl ?_
          exact hk_58 (s_58.1 + 4, x_114.2.1, x_114.2.2.1, x_114.2.2.2.1, x_114.2.2.2.2.1, x_114.2.2.2.2.2, x_99.2.1, x_99.2.2.1, x_99.2.2.2, s_58.2.2.2.2.2.2.2.2.2.1 + 1, s_58.2.2.2.2.2.2.2.2.2.2 + 6) (Option.some.inj ho_58).symm q_118 q_119 q_104
        · replace ho_58 := yf_t c_121 ho_58
          refine xr_aload_n (n := 287) (j := 5) C dd_L_law_7.2.2.2.2.2.2.2.2.2.2.2.2.1 rfl rfl ?_
          refine xr_getN (n := 290) C 2 rfl rfl 0 (by decide) in_X7 RL (List.mem_of_getElem? (i := 46) rfl) rfl (v := .long x_99.2.2.2) rfl dd_L_law_7.2.2.2.2.2.2.2.2.2.2.2.2.2.1 rfl ?_
          refine xr_iload (n := 292) (j := 0) C dd_L_law_7.2.2.2.2.2.2.2.2.2.2.2.2.2.2.1 rfl rfl ?_
          refine xr_i2l (n := 293) C dd_L_law_7.2.2.2.2.2.2.2.2.2.2.2.2.2.2.2.1 rfl ?_
          refine xr_lcmp (n := 294) C dd_L_law_8.1 rfl ?_
          refine xr_if_eq (tgt := 299) (n := 297) C dd_L_law_8.2.1 rfl rfl (fun c_122 => ?_) (fun c_122 => ?_)
          · replace ho_58 := yf_t c_122 ho_58
            refine xr_goto (tgt := 1390) C dd_L_law_8.2.2.2.2.1 rfl ?_
            refine xr_iinc (j := 6) (v := s_58.1 + 4) (n := 1393) C [(4, .int (s_58.1 + 4)), (6, .int x_108.1), (5, .int x_99.1), (0, .ref b), (1, .ref q_1), (2, .ref q_29), (3, .ref q_53)] dd_L_law_49.2.2.2.2.2.2.2.2.2.2.2.2.2.1 rfl rfl (by decide) rfl rfl ?_
            refine xr_goto (tgt := 27) C dd_L_law_49.2.2.2.2.2.2.2.2.2.2.2.2.2.2.1 rfl ?_
            refine xr_lv (lv' := [(0, .ref b), (1, .ref q_1), (2, .ref q_29), (3, .ref q_53), (4, .int (s_58.1 + 4))]) [3, 4, 5, 6, 0] rfl ?_
            exact hk_58 (s_58.1 + 4, x_114.2.1, x_114.2.2.1, x_114.2.2.2.1, x_114.2.2.2.2.1, x_114.2.2.2.2.2, x_99.2.1, x_99.2.2.1, x_99.2.2.2, s_58.2.2.2.2.2.2.2.2.2.1 + 1, s_58.2.2.2.2.2.2.2.2.2.2 + 6) (Option.some.inj ho_58).symm q_118 q_119 q_104
          · replace ho_58 := yf_f c_122 ho_58
            refine xr_iconst (n := 298) (v := 0) C dd_L_law_8.2.2.1 rfl rfl ?_
            have e_123 := hx_58 _ (Option.some.inj ho_58).symm
            subst e_123
            replace hR := ybr_r hR
            obtain rfl := Option.some.inj hR
            exact ret 0 rfl g_100.1 g_100.2 dd_L_law_8.2.2.2.1
      · replace ho_58 := yf_f c_120 ho_58
        refine xr_iconst (n := 280) (v := 0) C dd_L_law_7.2.2.2.2.2.2.2.2.1 rfl rfl ?_
        have e_124 := hx_58 _ (Option.some.inj ho_58).symm
        subst e_124
        replace hR := ybr_r hR
        obtain rfl := Option.some.inj hR
        exact ret 0 rfl g_100.1 g_100.2 dd_L_law_7.2.2.2.2.2.2.2.2.2.1
    replace ho_58 := yf_f c_95 ho_58
    by_cases c_125 : ((xs s_58.1.toNatClampNeg) &&& 31) = 2
    · replace ho_58 := yf_t c_125 ho_58
      refine xr_tableIn (off := 259) (tgt := 302) C dL_law_43 (by rw [c_125]; decide) (by rw [c_125]; decide) (by rw [c_125]; decide) rfl ?_
      refine xr_aload_n (n := 303) (j := 1) C dd_L_law_8.2.2.2.2.2.1 rfl rfl ?_
      refine xr_aload_n (n := 304) (j := 0) C dd_L_law_8.2.2.2.2.2.2.1 rfl rfl ?_
      refine xr_iload (n := 306) (j := 4) C dd_L_law_8.2.2.2.2.2.2.2.1 rfl rfl ?_
      refine xr_iconst (n := 307) (v := 1) C dd_L_law_8.2.2.2.2.2.2.2.2.1 rfl rfl ?_
      refine xr_iadd (n := 308) C dd_L_law_8.2.2.2.2.2.2.2.2.2.1 rfl ?_
      obtain ⟨g_126, ho_58⟩ := yf_g ho_58
      refine xr_sld (n := 309) C hX hbl hbA g_126 dd_L_law_8.2.2.2.2.2.2.2.2.2.2.1 rfl ?_
      refine xr_aload_n (n := 310) (j := 0) C dd_L_law_8.2.2.2.2.2.2.2.2.2.2.2.1 rfl rfl ?_
      refine xr_iload (n := 312) (j := 4) C dd_L_law_8.2.2.2.2.2.2.2.2.2.2.2.2.1 rfl rfl ?_
      refine xr_iconst (n := 313) (v := 2) C dd_L_law_8.2.2.2.2.2.2.2.2.2.2.2.2.2.1 rfl rfl ?_
      refine xr_iadd (n := 314) C dd_L_law_8.2.2.2.2.2.2.2.2.2.2.2.2.2.2.1 rfl ?_
      obtain ⟨g_127, ho_58⟩ := yf_g ho_58
      refine xr_sld (n := 315) C hX hbl hbA g_127 dd_L_law_8.2.2.2.2.2.2.2.2.2.2.2.2.2.2.2.1 rfl ?_
      refine xr_aload_n (n := 316) (j := 0) C dd_L_law_9.1 rfl rfl ?_
      refine xr_iload (n := 318) (j := 4) C dd_L_law_9.2.1 rfl rfl ?_
      refine xr_iconst (n := 319) (v := 3) C dd_L_law_9.2.2.1 rfl rfl ?_
      refine xr_iadd (n := 320) C dd_L_law_9.2.2.2.1 rfl ?_
      obtain ⟨g_128, ho_58⟩ := yf_g ho_58
      refine xr_sld (n := 321) C hX hbl hbA g_128 dd_L_law_9.2.2.2.2.1 rfl ?_
      refine xr_aload_n (n := 322) (j := 3) C dd_L_law_9.2.2.2.2.2.1 rfl rfl ?_
      obtain ⟨x_129, hx_129, ho_58⟩ := yf_b ho_58
      obtain ⟨g_130, ho_58⟩ := yf_g ho_58
      refine xr_callSW (n := 325) (As := [.ref q_1, .int (xs (s_58.1 + 1).toNatClampNeg), .int (xs (s_58.1 + 2).toNatClampNeg), .int (xs (s_58.1 + 3).toNatClampNeg), .ref q_53]) (rest := []) C (kgL_top l D cy hl0 (x := q_1) (a := z_28) (o := q_53) (os := a2_58) (n := s_58.2.2.2.2.2.2.1) (t := s_58.2.2.2.2.2.2.2.1) (on := s_58.2.2.2.2.2.2.2.2.1) (i1 := xs (s_58.1 + 1).toNatClampNeg) (i2 := xs (s_58.1 + 2).toNatClampNeg) (i3 := xs (s_58.1 + 3).toNatClampNeg) hx_129) mL_top u_683 u_684 3 [1, 2] [0] rfl (by decide +kernel) rfl rfl rfl rfl (Nat.le_of_ble_eq_true rfl) (Nat.le_of_ble_eq_true rfl) (Nat.le_of_ble_eq_true rfl) g_130.1 g_130.2 dd_L_law_9.2.2.2.2.2.2.1 rfl (fun v_131 u_132 hp_133 => ?_)
      obtain ⟨q_134, rfl, rfl⟩ := hp_133
      refine xr_perm C 3 [2, 0, 1] [] [MW q_29 a0_58 a1_58 cy s_58.2.1 s_58.2.2.1 s_58.2.2.2.1 s_58.2.2.2.2.1 s_58.2.2.2.2.2.1, CW q_1 z_28 cy x_129.2.1 x_129.2.2.1, [(q_53, .inr (9, [.long x_129.2.2.2, q_134]))]] rfl (by decide +kernel) rfl ?_
      refine xr_st (st' := [.int x_129.1]) rfl ?_
      refine xr_istore (n := 327) C [(5, .int x_129.1), (0, .ref b), (1, .ref q_1), (2, .ref q_29), (3, .ref q_53), (4, .int s_58.1)] dd_L_law_9.2.2.2.2.2.2.2.1 (by decide) rfl rfl ?_
      refine xr_aload_n (n := 328) (j := 3) C dd_L_law_9.2.2.2.2.2.2.2.2.1 rfl rfl ?_
      refine xr_aload_n (n := 329) (j := 1) C dd_L_law_9.2.2.2.2.2.2.2.2.2.1 rfl rfl ?_
      refine xr_iload (n := 331) (j := 5) C dd_L_law_9.2.2.2.2.2.2.2.2.2.2.1 rfl rfl ?_
      refine xr_iconst (n := 332) (v := 1) C dd_L_law_9.2.2.2.2.2.2.2.2.2.2.2.1 rfl rfl ?_
      refine xr_iadd (n := 333) C dd_L_law_9.2.2.2.2.2.2.2.2.2.2.2.2.1 rfl ?_
      obtain ⟨g_135, ho_58⟩ := yf_g ho_58
      refine xr_sld (n := 334) C hX hbl hbA g_135 dd_L_law_9.2.2.2.2.2.2.2.2.2.2.2.2.2.1 rfl ?_
      refine xr_aload_n (n := 335) (j := 1) C dd_L_law_9.2.2.2.2.2.2.2.2.2.2.2.2.2.2.1 rfl rfl ?_
      refine xr_iload (n := 337) (j := 5) C dd_L_law_9.2.2.2.2.2.2.2.2.2.2.2.2.2.2.2.1 rfl rfl ?_
      refine xr_iconst (n := 338) (v := 2) C dd_L_law_10.1 rfl rfl ?_
      refine xr_iadd (n := 339) C dd_L_law_10.2.1 rfl ?_
      obtain ⟨g_136, ho_58⟩ := yf_g ho_58
      refine xr_sld (n := 340) C hX hbl hbA g_136 dd_L_law_10.2.2.1 rfl ?_
      refine xr_aload_n (n := 341) (j := 1) C dd_L_law_10.2.2.2.1 rfl rfl ?_
      refine xr_iload (n := 343) (j := 5) C dd_L_law_10.2.2.2.2.1 rfl rfl ?_
      refine xr_iconst (n := 344) (v := 3) C dd_L_law_10.2.2.2.2.2.1 rfl rfl ?_
      refine xr_iadd (n := 345) C dd_L_law_10.2.2.2.2.2.2.1 rfl ?_
      obtain ⟨g_137, ho_58⟩ := yf_g ho_58
      refine xr_sld (n := 346) C hX hbl hbA g_137 dd_L_law_10.2.2.2.2.2.2.2.1 rfl ?_
      obtain ⟨x_138, hx_138, ho_58⟩ := yf_b ho_58
      refine xr_callVP (n := 349) (As := [.int (xs (s_58.1 + 1).toNatClampNeg), .int (xs (s_58.1 + 2).toNatClampNeg), .int (xs (s_58.1 + 3).toNatClampNeg)]) (rest := []) C (kgX9w_top l D cy (g := q_29) (a := a0_58) (ad := a1_58) (sh := s_58.2.1) (n := s_58.2.2.1) (L := s_58.2.2.2.1) (k := s_58.2.2.2.2.1) (G := s_58.2.2.2.2.2.1) (i1 := xs (s_58.1 + 1).toNatClampNeg) (i2 := xs (s_58.1 + 2).toNatClampNeg) (i3 := xs (s_58.1 + 3).toNatClampNeg) hx_138) mX9_top u_1319 u_1320 u_1321 0 rfl (MW_head _ _ _ _ _ _ _ _ _) rfl 3 [0] [1, 2] rfl (by decide +kernel) rfl rfl rfl rfl (Nat.le_of_ble_eq_true rfl) (Nat.le_of_ble_eq_true rfl) (Nat.le_of_ble_eq_true rfl) g_130.1 g_130.2 dd_L_law_10.2.2.2.2.2.2.2.2.1 rfl (fun v_139 u_140 hp_141 => ?_)
      obtain ⟨q_142, q_143, rfl, rfl⟩ := hp_141
      refine xr_perm C 3 [0, 1, 2] [] [MW q_29 q_142 q_143 cy x_138.2.1 x_138.2.2.1 x_138.2.2.2.1 x_138.2.2.2.2.1 x_138.2.2.2.2.2, CW q_1 z_28 cy x_129.2.1 x_129.2.2.1, [(q_53, .inr (9, [.long x_129.2.2.2, q_134]))]] rfl (by decide +kernel) rfl ?_
      refine xr_st (st' := [.int x_138.1]) rfl ?_
      refine xr_istore (n := 351) C [(6, .int x_138.1), (5, .int x_129.1), (0, .ref b), (1, .ref q_1), (2, .ref q_29), (3, .ref q_53), (4, .int s_58.1)] dd_L_law_10.2.2.2.2.2.2.2.2.2.1 (by decide) rfl rfl ?_
      refine xr_aload_n (n := 352) (j := 4) C dd_L_law_10.2.2.2.2.2.2.2.2.2.2.1 rfl rfl ?_
      obtain ⟨x_144, hx_144, ho_58⟩ := yf_b ho_58
      refine xr_callVP (n := 355) (As := []) (rest := []) C (kgX9w_thrown l D cy (g := q_29) (a := q_142) (ad := q_143) (sh := x_138.2.1) (n := x_138.2.2.1) (L := x_138.2.2.2.1) (k := x_138.2.2.2.2.1) (G := x_138.2.2.2.2.2) hx_144) mX9_thrown u_1290 u_1291 u_1292 0 rfl (MW_head _ _ _ _ _ _ _ _ _) rfl 3 [0] [1, 2] rfl (by decide +kernel) rfl rfl rfl rfl (Nat.le_of_ble_eq_true rfl) (Nat.le_of_ble_eq_true rfl) (Nat.le_of_ble_eq_true rfl) g_130.1 g_130.2 dd_L_law_10.2.2.2.2.2.2.2.2.2.2.2.1 rfl (fun v_145 u_146 hp_147 => ?_)
      obtain ⟨q_148, q_149, rfl, rfl⟩ := hp_147
      refine xr_perm C 3 [0, 1, 2] [] [MW q_29 q_148 q_149 cy x_144.2.1 x_144.2.2.1 x_144.2.2.2.1 x_144.2.2.2.2.1 x_144.2.2.2.2.2, CW q_1 z_28 cy x_129.2.1 x_129.2.2.1, [(q_53, .inr (9, [.long x_129.2.2.2, q_134]))]] rfl (by decide +kernel) rfl ?_
      refine xr_st (st' := [.int x_144.1]) rfl ?_
      refine xr_iload (n := 357) (j := 1) C dd_L_law_10.2.2.2.2.2.2.2.2.2.2.2.2.1 rfl rfl ?_
      refine xr_icmp_eq (tgt := 362) (n := 360) C dd_L_law_10.2.2.2.2.2.2.2.2.2.2.2.2.2.1 rfl rfl (fun c_150 => ?_) (fun c_150 => ?_)
      · replace ho_58 := yf_t c_150 ho_58
        refine xr_iload (n := 364) (j := 1) C dd_L_law_11.1 rfl rfl ?_
        refine xr_if_ne (tgt := 380) (n := 367) C dd_L_law_11.2.1 rfl rfl (fun c_151 => ?_) (fun c_151 => ?_)
        · replace ho_58 := yf_f c_151 ho_58
          refine xr_goto (tgt := 1390) C dd_L_law_11.2.2.2.2.2.2.2.2.2.2.1 rfl ?_
          refine xr_iinc (j := 6) (v := s_58.1 + 4) (n := 1393) C [(4, .int (s_58.1 + 4)), (6, .int x_138.1), (5, .int x_129.1), (0, .ref b), (1, .ref q_1), (2, .ref q_29), (3, .ref q_53)] dd_L_law_49.2.2.2.2.2.2.2.2.2.2.2.2.2.1 rfl rfl (by decide) rfl rfl ?_
          refine xr_goto (tgt := 27) C dd_L_law_49.2.2.2.2.2.2.2.2.2.2.2.2.2.2.1 rfl ?_
          refine xr_lv (lv' := [(0, .ref b), (1, .ref q_1), (2, .ref q_29), (3, .ref q_53), (4, .int (s_58.1 + 4))]) [3, 4, 5, 6, 0] rfl ?_
          exact hk_58 (s_58.1 + 4, x_144.2.1, x_144.2.2.1, x_144.2.2.2.1, x_144.2.2.2.2.1, x_144.2.2.2.2.2, x_129.2.1, x_129.2.2.1, x_129.2.2.2, s_58.2.2.2.2.2.2.2.2.2.1 + 1, s_58.2.2.2.2.2.2.2.2.2.2 + 6) (Option.some.inj ho_58).symm q_148 q_149 q_134
        · replace ho_58 := yf_t c_151 ho_58
          refine xr_aload_n (n := 368) (j := 5) C dd_L_law_11.2.2.1 rfl rfl ?_
          refine xr_getN (n := 371) C 2 rfl rfl 0 (by decide) in_X7 RL (List.mem_of_getElem? (i := 46) rfl) rfl (v := .long x_129.2.2.2) rfl dd_L_law_11.2.2.2.1 rfl ?_
          refine xr_iload (n := 373) (j := 0) C dd_L_law_11.2.2.2.2.1 rfl rfl ?_
          refine xr_i2l (n := 374) C dd_L_law_11.2.2.2.2.2.1 rfl ?_
          refine xr_lcmp (n := 375) C dd_L_law_11.2.2.2.2.2.2.1 rfl ?_
          refine xr_if_eq (tgt := 380) (n := 378) C dd_L_law_11.2.2.2.2.2.2.2.1 rfl rfl (fun c_152 => ?_) (fun c_152 => ?_)
          · replace ho_58 := yf_t c_152 ho_58
            refine xr_goto (tgt := 1390) C dd_L_law_11.2.2.2.2.2.2.2.2.2.2.1 rfl ?_
            refine xr_iinc (j := 6) (v := s_58.1 + 4) (n := 1393) C [(4, .int (s_58.1 + 4)), (6, .int x_138.1), (5, .int x_129.1), (0, .ref b), (1, .ref q_1), (2, .ref q_29), (3, .ref q_53)] dd_L_law_49.2.2.2.2.2.2.2.2.2.2.2.2.2.1 rfl rfl (by decide) rfl rfl ?_
            refine xr_goto (tgt := 27) C dd_L_law_49.2.2.2.2.2.2.2.2.2.2.2.2.2.2.1 rfl ?_
            refine xr_lv (lv' := [(0, .ref b), (1, .ref q_1), (2, .ref q_29), (3, .ref q_53), (4, .int (s_58.1 + 4))]) [3, 4, 5, 6, 0] rfl ?_
            exact hk_58 (s_58.1 + 4, x_144.2.1, x_144.2.2.1, x_144.2.2.2.1, x_144.2.2.2.2.1, x_144.2.2.2.2.2, x_129.2.1, x_129.2.2.1, x_129.2.2.2, s_58.2.2.2.2.2.2.2.2.2.1 + 1, s_58.2.2.2.2.2.2.2.2.2.2 + 6) (Option.some.inj ho_58).symm q_148 q_149 q_134
          · replace ho_58 := yf_f c_152 ho_58
            refine xr_iconst (n := 379) (v := 0) C dd_L_law_11.2.2.2.2.2.2.2.2.1 rfl rfl ?_
            have e_153 := hx_58 _ (Option.some.inj ho_58).symm
            subst e_153
            replace hR := ybr_r hR
            obtain rfl := Option.some.inj hR
            exact ret 0 rfl g_130.1 g_130.2 dd_L_law_11.2.2.2.2.2.2.2.2.2.1
      · replace ho_58 := yf_f c_150 ho_58
        refine xr_iconst (n := 361) (v := 0) C dd_L_law_10.2.2.2.2.2.2.2.2.2.2.2.2.2.2.1 rfl rfl ?_
        have e_154 := hx_58 _ (Option.some.inj ho_58).symm
        subst e_154
        replace hR := ybr_r hR
        obtain rfl := Option.some.inj hR
        exact ret 0 rfl g_130.1 g_130.2 dd_L_law_10.2.2.2.2.2.2.2.2.2.2.2.2.2.2.2.1
    replace ho_58 := yf_f c_125 ho_58
    by_cases c_155 : ((xs s_58.1.toNatClampNeg) &&& 31) = 3
    · replace ho_58 := yf_t c_155 ho_58
      refine xr_tableIn (off := 340) (tgt := 383) C dL_law_43 (by rw [c_155]; decide) (by rw [c_155]; decide) (by rw [c_155]; decide) rfl ?_
      refine xr_aload_n (n := 384) (j := 1) C dd_L_law_11.2.2.2.2.2.2.2.2.2.2.2.1 rfl rfl ?_
      refine xr_aload_n (n := 385) (j := 0) C dd_L_law_11.2.2.2.2.2.2.2.2.2.2.2.2.1 rfl rfl ?_
      refine xr_iload (n := 387) (j := 4) C dd_L_law_11.2.2.2.2.2.2.2.2.2.2.2.2.2.1 rfl rfl ?_
      refine xr_iconst (n := 388) (v := 1) C dd_L_law_11.2.2.2.2.2.2.2.2.2.2.2.2.2.2.1 rfl rfl ?_
      refine xr_iadd (n := 389) C dd_L_law_11.2.2.2.2.2.2.2.2.2.2.2.2.2.2.2.1 rfl ?_
      obtain ⟨g_156, ho_58⟩ := yf_g ho_58
      refine xr_sld (n := 390) C hX hbl hbA g_156 dd_L_law_12.1 rfl ?_
      refine xr_aload_n (n := 391) (j := 3) C dd_L_law_12.2.1 rfl rfl ?_
      obtain ⟨x_157, hx_157, ho_58⟩ := yf_b ho_58
      obtain ⟨g_158, ho_58⟩ := yf_g ho_58
      refine xr_callSW (n := 394) (As := [.ref q_1, .int (xs (s_58.1 + 1).toNatClampNeg), .ref q_53]) (rest := []) C (kgL_kind l D cy hl0 (x := q_1) (a := z_28) (o := q_53) (os := a2_58) (n := s_58.2.2.2.2.2.2.1) (t := s_58.2.2.2.2.2.2.2.1) (on := s_58.2.2.2.2.2.2.2.2.1) (i1 := xs (s_58.1 + 1).toNatClampNeg) hx_157) mL_kind u_691 u_692 3 [1, 2] [0] rfl (by decide +kernel) rfl rfl rfl rfl (Nat.le_of_ble_eq_true rfl) (Nat.le_of_ble_eq_true rfl) (Nat.le_of_ble_eq_true rfl) g_158.1 g_158.2 dd_L_law_12.2.2.1 rfl (fun v_159 u_160 hp_161 => ?_)
      obtain ⟨q_162, rfl, rfl⟩ := hp_161
      refine xr_perm C 3 [2, 0, 1] [] [MW q_29 a0_58 a1_58 cy s_58.2.1 s_58.2.2.1 s_58.2.2.2.1 s_58.2.2.2.2.1 s_58.2.2.2.2.2.1, CW q_1 z_28 cy x_157.2.1 x_157.2.2.1, [(q_53, .inr (9, [.long x_157.2.2.2, q_162]))]] rfl (by decide +kernel) rfl ?_
      refine xr_st (st' := [.int x_157.1]) rfl ?_
      refine xr_istore (n := 396) C [(5, .int x_157.1), (0, .ref b), (1, .ref q_1), (2, .ref q_29), (3, .ref q_53), (4, .int s_58.1)] dd_L_law_12.2.2.2.1 (by decide) rfl rfl ?_
      refine xr_aload_n (n := 397) (j := 3) C dd_L_law_12.2.2.2.2.1 rfl rfl ?_
      refine xr_aload_n (n := 398) (j := 1) C dd_L_law_12.2.2.2.2.2.1 rfl rfl ?_
      refine xr_iload (n := 400) (j := 5) C dd_L_law_12.2.2.2.2.2.2.1 rfl rfl ?_
      refine xr_iconst (n := 401) (v := 1) C dd_L_law_12.2.2.2.2.2.2.2.1 rfl rfl ?_
      refine xr_iadd (n := 402) C dd_L_law_12.2.2.2.2.2.2.2.2.1 rfl ?_
      obtain ⟨g_163, ho_58⟩ := yf_g ho_58
      refine xr_sld (n := 403) C hX hbl hbA g_163 dd_L_law_12.2.2.2.2.2.2.2.2.2.1 rfl ?_
      obtain ⟨x_164, hx_164, ho_58⟩ := yf_b ho_58
      refine xr_callVP (n := 406) (As := [.int (xs (s_58.1 + 1).toNatClampNeg)]) (rest := []) C (kgX9w_kind l D cy (g := q_29) (a := a0_58) (ad := a1_58) (sh := s_58.2.1) (n := s_58.2.2.1) (L := s_58.2.2.2.1) (k := s_58.2.2.2.2.1) (G := s_58.2.2.2.2.2.1) (i1 := xs (s_58.1 + 1).toNatClampNeg) hx_164) mX9_kind u_1323 u_1324 u_1325 0 rfl (MW_head _ _ _ _ _ _ _ _ _) rfl 3 [0] [1, 2] rfl (by decide +kernel) rfl rfl rfl rfl (Nat.le_of_ble_eq_true rfl) (Nat.le_of_ble_eq_true rfl) (Nat.le_of_ble_eq_true rfl) g_158.1 g_158.2 dd_L_law_12.2.2.2.2.2.2.2.2.2.2.1 rfl (fun v_165 u_166 hp_167 => ?_)
      obtain ⟨q_168, q_169, rfl, rfl⟩ := hp_167
      refine xr_perm C 3 [0, 1, 2] [] [MW q_29 q_168 q_169 cy x_164.2.1 x_164.2.2.1 x_164.2.2.2.1 x_164.2.2.2.2.1 x_164.2.2.2.2.2, CW q_1 z_28 cy x_157.2.1 x_157.2.2.1, [(q_53, .inr (9, [.long x_157.2.2.2, q_162]))]] rfl (by decide +kernel) rfl ?_
      refine xr_st (st' := [.int x_164.1]) rfl ?_
      refine xr_istore (n := 408) C [(6, .int x_164.1), (5, .int x_157.1), (0, .ref b), (1, .ref q_1), (2, .ref q_29), (3, .ref q_53), (4, .int s_58.1)] dd_L_law_12.2.2.2.2.2.2.2.2.2.2.2.1 (by decide) rfl rfl ?_
      refine xr_aload_n (n := 409) (j := 4) C dd_L_law_12.2.2.2.2.2.2.2.2.2.2.2.2.1 rfl rfl ?_
      obtain ⟨x_170, hx_170, ho_58⟩ := yf_b ho_58
      refine xr_callVP (n := 412) (As := []) (rest := []) C (kgX9w_thrown l D cy (g := q_29) (a := q_168) (ad := q_169) (sh := x_164.2.1) (n := x_164.2.2.1) (L := x_164.2.2.2.1) (k := x_164.2.2.2.2.1) (G := x_164.2.2.2.2.2) hx_170) mX9_thrown u_1290 u_1291 u_1292 0 rfl (MW_head _ _ _ _ _ _ _ _ _) rfl 3 [0] [1, 2] rfl (by decide +kernel) rfl rfl rfl rfl (Nat.le_of_ble_eq_true rfl) (Nat.le_of_ble_eq_true rfl) (Nat.le_of_ble_eq_true rfl) g_158.1 g_158.2 dd_L_law_12.2.2.2.2.2.2.2.2.2.2.2.2.2.1 rfl (fun v_171 u_172 hp_173 => ?_)
      obtain ⟨q_174, q_175, rfl, rfl⟩ := hp_173
      refine xr_perm C 3 [0, 1, 2] [] [MW q_29 q_174 q_175 cy x_170.2.1 x_170.2.2.1 x_170.2.2.2.1 x_170.2.2.2.2.1 x_170.2.2.2.2.2, CW q_1 z_28 cy x_157.2.1 x_157.2.2.1, [(q_53, .inr (9, [.long x_157.2.2.2, q_162]))]] rfl (by decide +kernel) rfl ?_
      refine xr_st (st' := [.int x_170.1]) rfl ?_
      refine xr_iload (n := 414) (j := 1) C dd_L_law_12.2.2.2.2.2.2.2.2.2.2.2.2.2.2.1 rfl rfl ?_
      refine xr_icmp_eq (tgt := 419) (n := 417) C dd_L_law_12.2.2.2.2.2.2.2.2.2.2.2.2.2.2.2.1 rfl rfl (fun c_176 => ?_) (fun c_176 => ?_)
      · replace ho_58 := yf_t c_176 ho_58
        refine xr_iload (n := 421) (j := 1) C dd_L_law_13.2.2.1 rfl rfl ?_
        refine xr_if_ne (tgt := 437) (n := 424) C dd_L_law_13.2.2.2.1 rfl rfl (fun c_177 => ?_) (fun c_177 => ?_)
        · replace ho_58 := yf_f c_177 ho_58
          refine xr_goto (tgt := 1390) C dd_L_law_13.2.2.2.2.2.2.2.2.2.2.2.2.1 rfl ?_
          refine xr_iinc (j := 6) (v := s_58.1 + 4) (n := 1393) C [(4, .int (s_58.1 + 4)), (6, .int x_164.1), (5, .int x_157.1), (0, .ref b), (1, .ref q_1), (2, .ref q_29), (3, .ref q_53)] dd_L_law_49.2.2.2.2.2.2.2.2.2.2.2.2.2.1 rfl rfl (by decide) rfl rfl ?_
          refine xr_goto (tgt := 27) C dd_L_law_49.2.2.2.2.2.2.2.2.2.2.2.2.2.2.1 rfl ?_
          refine xr_lv (lv' := [(0, .ref b), (1, .ref q_1), (2, .ref q_29), (3, .ref q_53), (4, .int (s_58.1 + 4))]) [3, 4, 5, 6, 0] rfl ?_
          exact hk_58 (s_58.1 + 4, x_170.2.1, x_170.2.2.1, x_170.2.2.2.1, x_170.2.2.2.2.1, x_170.2.2.2.2.2, x_157.2.1, x_157.2.2.1, x_157.2.2.2, s_58.2.2.2.2.2.2.2.2.2.1 + 1, s_58.2.2.2.2.2.2.2.2.2.2 + 6) (Option.some.inj ho_58).symm q_174 q_175 q_162
        · replace ho_58 := yf_t c_177 ho_58
          refine xr_aload_n (n := 425) (j := 5) C dd_L_law_13.2.2.2.2.1 rfl rfl ?_
          refine xr_getN (n := 428) C 2 rfl rfl 0 (by decide) in_X7 RL (List.mem_of_getElem? (i := 46) rfl) rfl (v := .long x_157.2.2.2) rfl dd_L_law_13.2.2.2.2.2.1 rfl ?_
          refine xr_iload (n := 430) (j := 0) C dd_L_law_13.2.2.2.2.2.2.1 rfl rfl ?_
          refine xr_i2l (n := 431) C dd_L_law_13.2.2.2.2.2.2.2.1 rfl ?_
          refine xr_lcmp (n := 432) C dd_L_law_13.2.2.2.2.2.2.2.2.1 rfl ?_
          refine xr_if_eq (tgt := 437) (n := 435) C dd_L_law_13.2.2.2.2.2.2.2.2.2.1 rfl rfl (fun c_178 => ?_) (fun c_178 => ?_)
          · replace ho_58 := yf_t c_178 ho_58
            refine xr_goto (tgt := 1390) C dd_L_law_13.2.2.2.2.2.2.2.2.2.2.2.2.1 rfl ?_
            refine xr_iinc (j := 6) (v := s_58.1 + 4) (n := 1393) C [(4, .int (s_58.1 + 4)), (6, .int x_164.1), (5, .int x_157.1), (0, .ref b), (1, .ref q_1), (2, .ref q_29), (3, .ref q_53)] dd_L_law_49.2.2.2.2.2.2.2.2.2.2.2.2.2.1 rfl rfl (by decide) rfl rfl ?_
            refine xr_goto (tgt := 27) C dd_L_law_49.2.2.2.2.2.2.2.2.2.2.2.2.2.2.1 rfl ?_
            refine xr_lv (lv' := [(0, .ref b), (1, .ref q_1), (2, .ref q_29), (3, .ref q_53), (4, .int (s_58.1 + 4))]) [3, 4, 5, 6, 0] rfl ?_
            exact hk_58 (s_58.1 + 4, x_170.2.1, x_170.2.2.1, x_170.2.2.2.1, x_170.2.2.2.2.1, x_170.2.2.2.2.2, x_157.2.1, x_157.2.2.1, x_157.2.2.2, s_58.2.2.2.2.2.2.2.2.2.1 + 1, s_58.2.2.2.2.2.2.2.2.2.2 + 6) (Option.some.inj ho_58).symm q_174 q_175 q_162
          · replace ho_58 := yf_f c_178 ho_58
            refine xr_iconst (n := 436) (v := 0) C dd_L_law_13.2.2.2.2.2.2.2.2.2.2.1 rfl rfl ?_
            have e_179 := hx_58 _ (Option.some.inj ho_58).symm
            subst e_179
            replace hR := ybr_r hR
            obtain rfl := Option.some.inj hR
            exact ret 0 rfl g_158.1 g_158.2 dd_L_law_13.2.2.2.2.2.2.2.2.2.2.2.1
      · replace ho_58 := yf_f c_176 ho_58
        refine xr_iconst (n := 418) (v := 0) C dd_L_law_13.1 rfl rfl ?_
        have e_180 := hx_58 _ (Option.some.inj ho_58).symm
        subst e_180
        replace hR := ybr_r hR
        obtain rfl := Option.some.inj hR
        exact ret 0 rfl g_158.1 g_158.2 dd_L_law_13.2.1
    replace ho_58 := yf_f c_155 ho_58
    by_cases c_181 : ((xs s_58.1.toNatClampNeg) &&& 31) = 4
    · replace ho_58 := yf_t c_181 ho_58
      refine xr_tableIn (off := 397) (tgt := 440) C dL_law_43 (by rw [c_181]; decide) (by rw [c_181]; decide) (by rw [c_181]; decide) rfl ?_
      refine xr_aload_n (n := 441) (j := 1) C dd_L_law_13.2.2.2.2.2.2.2.2.2.2.2.2.2.1 rfl rfl ?_
      refine xr_aload_n (n := 442) (j := 0) C dd_L_law_13.2.2.2.2.2.2.2.2.2.2.2.2.2.2.1 rfl rfl ?_
      refine xr_iload (n := 444) (j := 4) C dd_L_law_13.2.2.2.2.2.2.2.2.2.2.2.2.2.2.2.1 rfl rfl ?_
      refine xr_iconst (n := 445) (v := 1) C dd_L_law_14.1 rfl rfl ?_
      refine xr_iadd (n := 446) C dd_L_law_14.2.1 rfl ?_
      obtain ⟨g_182, ho_58⟩ := yf_g ho_58
      refine xr_sld (n := 447) C hX hbl hbA g_182 dd_L_law_14.2.2.1 rfl ?_
      obtain ⟨r_184, hE_184, ho_58⟩ := yf_b ho_58
      have J_184 : X p l e room_1 s m args below meth c D A H0 7 Q [MW q_29 a0_58 a1_58 cy s_58.2.1 s_58.2.2.1 s_58.2.2.2.1 s_58.2.2.2.2.1 s_58.2.2.2.2.2.1, CW q_1 z_28 cy s_58.2.2.2.2.2.2.1 s_58.2.2.2.2.2.2.2.1, [(q_53, .inr (9, [.long s_58.2.2.2.2.2.2.2.2.1, a2_58]))]] s_58.2.2.2.2.2.2.2.2.2.1 s_58.2.2.2.2.2.2.2.2.2.2 [(0, .ref b), (1, .ref q_1), (2, .ref q_29), (3, .ref q_53), (4, .int s_58.1)] 455 [.int r_184, .ref q_1] := by
        refine xr_aload_n (n := 456) (j := 3) C dd_L_law_14.2.2.2.2.2.2.2.1 rfl rfl ?_
        obtain ⟨x_185, hx_185, ho_58⟩ := yf_b ho_58
        obtain ⟨g_186, ho_58⟩ := yf_g ho_58
        refine xr_callSW (n := 459) (As := [.ref q_1, .int r_184, .ref q_53]) (rest := []) C (kgL_checked l D cy hl0 (x := q_1) (a := z_28) (o := q_53) (os := a2_58) (n := s_58.2.2.2.2.2.2.1) (t := s_58.2.2.2.2.2.2.2.1) (on := s_58.2.2.2.2.2.2.2.2.1) (i1 := r_184) hx_185) mL_checked u_699 u_700 3 [1, 2] [0] rfl (by decide +kernel) rfl rfl rfl rfl (Nat.le_of_ble_eq_true rfl) (Nat.le_of_ble_eq_true rfl) (Nat.le_of_ble_eq_true rfl) g_186.1 g_186.2 dd_L_law_14.2.2.2.2.2.2.2.2.1 rfl (fun v_187 u_188 hp_189 => ?_)
        obtain ⟨q_190, rfl, rfl⟩ := hp_189
        refine xr_perm C 3 [2, 0, 1] [] [MW q_29 a0_58 a1_58 cy s_58.2.1 s_58.2.2.1 s_58.2.2.2.1 s_58.2.2.2.2.1 s_58.2.2.2.2.2.1, CW q_1 z_28 cy x_185.2.1 x_185.2.2.1, [(q_53, .inr (9, [.long x_185.2.2.2, q_190]))]] rfl (by decide +kernel) rfl ?_
        refine xr_st (st' := [.int x_185.1]) rfl ?_
        refine xr_istore (n := 461) C [(5, .int x_185.1), (0, .ref b), (1, .ref q_1), (2, .ref q_29), (3, .ref q_53), (4, .int s_58.1)] dd_L_law_14.2.2.2.2.2.2.2.2.2.1 (by decide) rfl rfl ?_
        refine xr_aload_n (n := 462) (j := 3) C dd_L_law_14.2.2.2.2.2.2.2.2.2.2.1 rfl rfl ?_
        refine xr_aload_n (n := 463) (j := 1) C dd_L_law_14.2.2.2.2.2.2.2.2.2.2.2.1 rfl rfl ?_
        refine xr_iload (n := 465) (j := 5) C dd_L_law_14.2.2.2.2.2.2.2.2.2.2.2.2.1 rfl rfl ?_
        refine xr_iconst (n := 466) (v := 1) C dd_L_law_14.2.2.2.2.2.2.2.2.2.2.2.2.2.1 rfl rfl ?_
        refine xr_iadd (n := 467) C dd_L_law_14.2.2.2.2.2.2.2.2.2.2.2.2.2.2.1 rfl ?_
        obtain ⟨g_191, ho_58⟩ := yf_g ho_58
        refine xr_sld (n := 468) C hX hbl hbA g_191 dd_L_law_14.2.2.2.2.2.2.2.2.2.2.2.2.2.2.2.1 rfl ?_
        obtain ⟨r_193, hE_193, ho_58⟩ := yf_b ho_58
        have J_193 : X p l e room_1 s m args below meth c D A H0 7 Q [MW q_29 a0_58 a1_58 cy s_58.2.1 s_58.2.2.1 s_58.2.2.2.1 s_58.2.2.2.2.1 s_58.2.2.2.2.2.1, CW q_1 z_28 cy x_185.2.1 x_185.2.2.1, [(q_53, .inr (9, [.long x_185.2.2.2, q_190]))]] (s_58.2.2.2.2.2.2.2.2.2.1 + 1) (s_58.2.2.2.2.2.2.2.2.2.2 + 6) [(0, .ref b), (1, .ref q_1), (2, .ref q_29), (3, .ref q_53), (4, .int s_58.1), (5, .int x_185.1)] 476 [.int r_193, .ref q_29] := by
          obtain ⟨x_194, hx_194, ho_58⟩ := yf_b ho_58
          refine xr_callVP (n := 479) (As := [.int r_193]) (rest := []) C (kgX9w_checked l D cy (g := q_29) (a := a0_58) (ad := a1_58) (sh := s_58.2.1) (n := s_58.2.2.1) (L := s_58.2.2.2.1) (k := s_58.2.2.2.2.1) (G := s_58.2.2.2.2.2.1) (i1 := r_193) hx_194) mX9_checked u_1327 u_1328 u_1329 0 rfl (MW_head _ _ _ _ _ _ _ _ _) rfl 3 [0] [1, 2] rfl (by decide +kernel) rfl rfl rfl rfl (Nat.le_of_ble_eq_true rfl) (Nat.le_of_ble_eq_true rfl) (Nat.le_of_ble_eq_true rfl) g_186.1 g_186.2 dd_L_law_15.2.2.2.2.1 rfl (fun v_195 u_196 hp_197 => ?_)
          obtain ⟨q_198, q_199, rfl, rfl⟩ := hp_197
          refine xr_perm C 3 [0, 1, 2] [] [MW q_29 q_198 q_199 cy x_194.2.1 x_194.2.2.1 x_194.2.2.2.1 x_194.2.2.2.2.1 x_194.2.2.2.2.2, CW q_1 z_28 cy x_185.2.1 x_185.2.2.1, [(q_53, .inr (9, [.long x_185.2.2.2, q_190]))]] rfl (by decide +kernel) rfl ?_
          refine xr_st (st' := [.int x_194.1]) rfl ?_
          refine xr_istore (n := 481) C [(6, .int x_194.1), (0, .ref b), (1, .ref q_1), (2, .ref q_29), (3, .ref q_53), (4, .int s_58.1), (5, .int x_185.1)] dd_L_law_15.2.2.2.2.2.1 (by decide) rfl rfl ?_
          refine xr_aload_n (n := 482) (j := 3) C dd_L_law_15.2.2.2.2.2.2.1 rfl rfl ?_
          obtain ⟨x_200, hx_200, ho_58⟩ := yf_b ho_58
          refine xr_callVP (n := 485) (As := []) (rest := []) C (kgX9w_thrown l D cy (g := q_29) (a := q_198) (ad := q_199) (sh := x_194.2.1) (n := x_194.2.2.1) (L := x_194.2.2.2.1) (k := x_194.2.2.2.2.1) (G := x_194.2.2.2.2.2) hx_200) mX9_thrown u_1290 u_1291 u_1292 0 rfl (MW_head _ _ _ _ _ _ _ _ _) rfl 3 [0] [1, 2] rfl (by decide +kernel) rfl rfl rfl rfl (Nat.le_of_ble_eq_true rfl) (Nat.le_of_ble_eq_true rfl) (Nat.le_of_ble_eq_true rfl) g_186.1 g_186.2 dd_L_law_15.2.2.2.2.2.2.2.1 rfl (fun v_201 u_202 hp_203 => ?_)
          obtain ⟨q_204, q_205, rfl, rfl⟩ := hp_203
          refine xr_perm C 3 [0, 1, 2] [] [MW q_29 q_204 q_205 cy x_200.2.1 x_200.2.2.1 x_200.2.2.2.1 x_200.2.2.2.2.1 x_200.2.2.2.2.2, CW q_1 z_28 cy x_185.2.1 x_185.2.2.1, [(q_53, .inr (9, [.long x_185.2.2.2, q_190]))]] rfl (by decide +kernel) rfl ?_
          refine xr_st (st' := [.int x_200.1]) rfl ?_
          refine xr_iload (n := 487) (j := 6) C dd_L_law_15.2.2.2.2.2.2.2.2.1 rfl rfl ?_
          refine xr_icmp_eq (tgt := 492) (n := 490) C dd_L_law_15.2.2.2.2.2.2.2.2.2.1 rfl rfl (fun c_206 => ?_) (fun c_206 => ?_)
          · replace ho_58 := yf_t c_206 ho_58
            refine xr_iload (n := 494) (j := 6) C dd_L_law_15.2.2.2.2.2.2.2.2.2.2.2.2.1 rfl rfl ?_
            refine xr_if_ne (tgt := 517) (n := 497) C dd_L_law_15.2.2.2.2.2.2.2.2.2.2.2.2.2.1 rfl rfl (fun c_207 => ?_) (fun c_207 => ?_)
            · replace ho_58 := yf_f c_207 ho_58
              refine xr_goto (tgt := 1390) C dd_L_law_16.2.2.2.2.2.2.2.2.2.1 rfl ?_
              refine xr_iinc (j := 5) (v := s_58.1 + 4) (n := 1393) C [(4, .int (s_58.1 + 4)), (6, .int x_194.1), (0, .ref b), (1, .ref q_1), (2, .ref q_29), (3, .ref q_53), (5, .int x_185.1)] dd_L_law_49.2.2.2.2.2.2.2.2.2.2.2.2.2.1 rfl rfl (by decide) rfl rfl ?_
              refine xr_goto (tgt := 27) C dd_L_law_49.2.2.2.2.2.2.2.2.2.2.2.2.2.2.1 rfl ?_
              refine xr_lv (lv' := [(0, .ref b), (1, .ref q_1), (2, .ref q_29), (3, .ref q_53), (4, .int (s_58.1 + 4))]) [2, 3, 4, 5, 0] rfl ?_
              exact hk_58 (s_58.1 + 4, x_200.2.1, x_200.2.2.1, x_200.2.2.2.1, x_200.2.2.2.2.1, x_200.2.2.2.2.2, x_185.2.1, x_185.2.2.1, x_185.2.2.2, s_58.2.2.2.2.2.2.2.2.2.1 + 1, s_58.2.2.2.2.2.2.2.2.2.2 + 6) (Option.some.inj ho_58).symm q_204 q_205 q_190
            · replace ho_58 := yf_t c_207 ho_58
              refine xr_aload_n (n := 498) (j := 4) C dd_L_law_15.2.2.2.2.2.2.2.2.2.2.2.2.2.2.1 rfl rfl ?_
              refine xr_getN (n := 501) C 2 rfl rfl 0 (by decide) in_X7 RL (List.mem_of_getElem? (i := 46) rfl) rfl (v := .long x_185.2.2.2) rfl dd_L_law_15.2.2.2.2.2.2.2.2.2.2.2.2.2.2.2.1 rfl ?_
              refine xr_iload (n := 503) (j := 0) C dd_L_law_16.1 rfl rfl ?_
              obtain ⟨r_209, hE_209, ho_58⟩ := yf_b ho_58
              have J_209 : X p l e room_1 s m args below meth c D A H0 7 Q [MW q_29 q_204 q_205 cy x_200.2.1 x_200.2.2.1 x_200.2.2.2.1 x_200.2.2.2.2.1 x_200.2.2.2.2.2, CW q_1 z_28 cy x_185.2.1 x_185.2.2.1, [(q_53, .inr (9, [.long x_185.2.2.2, q_190]))]] (s_58.2.2.2.2.2.2.2.2.2.1 + 1) (s_58.2.2.2.2.2.2.2.2.2.2 + 6) [(0, .ref b), (1, .ref q_1), (2, .ref q_29), (3, .ref q_53), (4, .int s_58.1)] 511 [.long r_209, .long x_185.2.2.2] := by
                refine xr_lcmp (n := 512) C dd_L_law_16.2.2.2.2.2.1 rfl ?_
                refine xr_if_eq (tgt := 517) (n := 515) C dd_L_law_16.2.2.2.2.2.2.1 rfl rfl (fun c_210 => ?_) (fun c_210 => ?_)
                · replace ho_58 := yf_t c_210 ho_58
                  refine xr_goto (tgt := 1390) C dd_L_law_16.2.2.2.2.2.2.2.2.2.1 rfl ?_
                  refine xr_iinc (j := 4) (v := s_58.1 + 4) (n := 1393) C [(4, .int (s_58.1 + 4)), (0, .ref b), (1, .ref q_1), (2, .ref q_29), (3, .ref q_53)] dd_L_law_49.2.2.2.2.2.2.2.2.2.2.2.2.2.1 rfl rfl (by decide) rfl rfl ?_
                  refine xr_goto (tgt := 27) C dd_L_law_49.2.2.2.2.2.2.2.2.2.2.2.2.2.2.1 rfl ?_
                  refine xr_lv (lv' := [(0, .ref b), (1, .ref q_1), (2, .ref q_29), (3, .ref q_53), (4, .int (s_58.1 + 4))]) [1, 2, 3, 4, 0] rfl ?_
                  exact hk_58 (s_58.1 + 4, x_200.2.1, x_200.2.2.1, x_200.2.2.2.1, x_200.2.2.2.2.1, x_200.2.2.2.2.2, x_185.2.1, x_185.2.2.1, x_185.2.2.2, s_58.2.2.2.2.2.2.2.2.2.1 + 1, s_58.2.2.2.2.2.2.2.2.2.2 + 6) (Option.some.inj ho_58).symm q_204 q_205 q_190
                · replace ho_58 := yf_f c_210 ho_58
                  refine xr_iconst (n := 516) (v := 0) C dd_L_law_16.2.2.2.2.2.2.2.1 rfl rfl ?_
                  have e_211 := hx_58 _ (Option.some.inj ho_58).symm
                  subst e_211
                  replace hR := ybr_r hR
                  obtain rfl := Option.some.inj hR
                  exact ret 0 rfl g_186.1 g_186.2 dd_L_law_16.2.2.2.2.2.2.2.2.1
              refine xr_if_eq (tgt := 510) (n := 506) C dd_L_law_16.2.1 rfl rfl (fun c_212 => ?_) (fun c_212 => ?_)
              · replace hE_209 := yf_t c_212 hE_209
                refine xr_lconst (n := 511) (v := 0) C dd_L_law_16.2.2.2.2.1 rfl rfl ?_
                refine xr_lv (lv' := [(0, .ref b), (1, .ref q_1), (2, .ref q_29), (3, .ref q_53), (4, .int s_58.1)]) [1, 2, 3, 4, 5] rfl ?_
                have e_213 := Option.some.inj hE_209
                subst e_213
                exact J_209
              · replace hE_209 := yf_f c_212 hE_209
                refine xr_lconst (n := 507) (v := 1) C dd_L_law_16.2.2.1 rfl rfl ?_
                refine xr_goto (tgt := 511) C dd_L_law_16.2.2.2.1 rfl ?_
                refine xr_lv (lv' := [(0, .ref b), (1, .ref q_1), (2, .ref q_29), (3, .ref q_53), (4, .int s_58.1)]) [1, 2, 3, 4, 5] rfl ?_
                have e_214 := Option.some.inj hE_209
                subst e_214
                exact J_209
          · replace ho_58 := yf_f c_206 ho_58
            refine xr_iconst (n := 491) (v := 0) C dd_L_law_15.2.2.2.2.2.2.2.2.2.2.1 rfl rfl ?_
            have e_215 := hx_58 _ (Option.some.inj ho_58).symm
            subst e_215
            replace hR := ybr_r hR
            obtain rfl := Option.some.inj hR
            exact ret 0 rfl g_186.1 g_186.2 dd_L_law_15.2.2.2.2.2.2.2.2.2.2.2.1
        refine xr_if_eq (tgt := 475) (n := 471) C dd_L_law_15.1 rfl rfl (fun c_216 => ?_) (fun c_216 => ?_)
        · replace hE_193 := yf_t c_216 hE_193
          refine xr_iconst (n := 476) (v := 0) C dd_L_law_15.2.2.2.1 rfl rfl ?_
          refine xr_lv (lv' := [(0, .ref b), (1, .ref q_1), (2, .ref q_29), (3, .ref q_53), (4, .int s_58.1), (5, .int x_185.1)]) [1, 2, 3, 4, 5, 0] rfl ?_
          have e_217 := Option.some.inj hE_193
          subst e_217
          exact J_193
        · replace hE_193 := yf_f c_216 hE_193
          refine xr_iconst (n := 472) (v := 1) C dd_L_law_15.2.1 rfl rfl ?_
          refine xr_goto (tgt := 476) C dd_L_law_15.2.2.1 rfl ?_
          refine xr_lv (lv' := [(0, .ref b), (1, .ref q_1), (2, .ref q_29), (3, .ref q_53), (4, .int s_58.1), (5, .int x_185.1)]) [1, 2, 3, 4, 5, 0] rfl ?_
          have e_218 := Option.some.inj hE_193
          subst e_218
          exact J_193
      refine xr_if_eq (tgt := 454) (n := 450) C dd_L_law_14.2.2.2.1 rfl rfl (fun c_219 => ?_) (fun c_219 => ?_)
      · replace hE_184 := yf_t c_219 hE_184
        refine xr_iconst (n := 455) (v := 0) C dd_L_law_14.2.2.2.2.2.2.1 rfl rfl ?_
        have e_220 := Option.some.inj hE_184
        subst e_220
        exact J_184
      · replace hE_184 := yf_f c_219 hE_184
        refine xr_iconst (n := 451) (v := 1) C dd_L_law_14.2.2.2.2.1 rfl rfl ?_
        refine xr_goto (tgt := 455) C dd_L_law_14.2.2.2.2.2.1 rfl ?_
        have e_221 := Option.some.inj hE_184
        subst e_221
        exact J_184
    replace ho_58 := yf_f c_181 ho_58
    by_cases c_222 : ((xs s_58.1.toNatClampNeg) &&& 31) = 5
    · replace ho_58 := yf_t c_222 ho_58
      refine xr_tableIn (off := 477) (tgt := 520) C dL_law_43 (by rw [c_222]; decide) (by rw [c_222]; decide) (by rw [c_222]; decide) rfl ?_
      refine xr_aload_n (n := 521) (j := 1) C dd_L_law_16.2.2.2.2.2.2.2.2.2.2.1 rfl rfl ?_
      refine xr_aload_n (n := 522) (j := 0) C dd_L_law_16.2.2.2.2.2.2.2.2.2.2.2.1 rfl rfl ?_
      refine xr_iload (n := 524) (j := 4) C dd_L_law_16.2.2.2.2.2.2.2.2.2.2.2.2.1 rfl rfl ?_
      refine xr_iconst (n := 525) (v := 1) C dd_L_law_16.2.2.2.2.2.2.2.2.2.2.2.2.2.1 rfl rfl ?_
      refine xr_iadd (n := 526) C dd_L_law_16.2.2.2.2.2.2.2.2.2.2.2.2.2.2.1 rfl ?_
      obtain ⟨g_223, ho_58⟩ := yf_g ho_58
      refine xr_sld (n := 527) C hX hbl hbA g_223 dd_L_law_16.2.2.2.2.2.2.2.2.2.2.2.2.2.2.2.1 rfl ?_
      refine xr_aload_n (n := 528) (j := 0) C dd_L_law_17.1 rfl rfl ?_
      refine xr_iload (n := 530) (j := 4) C dd_L_law_17.2.1 rfl rfl ?_
      refine xr_iconst (n := 531) (v := 2) C dd_L_law_17.2.2.1 rfl rfl ?_
      refine xr_iadd (n := 532) C dd_L_law_17.2.2.2.1 rfl ?_
      obtain ⟨g_224, ho_58⟩ := yf_g ho_58
      refine xr_sld (n := 533) C hX hbl hbA g_224 dd_L_law_17.2.2.2.2.1 rfl ?_
      refine xr_aload_n (n := 534) (j := 0) C dd_L_law_17.2.2.2.2.2.1 rfl rfl ?_
      refine xr_iload (n := 536) (j := 4) C dd_L_law_17.2.2.2.2.2.2.1 rfl rfl ?_
      refine xr_iconst (n := 537) (v := 3) C dd_L_law_17.2.2.2.2.2.2.2.1 rfl rfl ?_
      refine xr_iadd (n := 538) C dd_L_law_17.2.2.2.2.2.2.2.2.1 rfl ?_
      obtain ⟨g_225, ho_58⟩ := yf_g ho_58
      refine xr_sld (n := 539) C hX hbl hbA g_225 dd_L_law_17.2.2.2.2.2.2.2.2.2.1 rfl ?_
      obtain ⟨r_227, hE_227, ho_58⟩ := yf_b ho_58
      have J_227 : X p l e room_1 s m args below meth c D A H0 7 Q [MW q_29 a0_58 a1_58 cy s_58.2.1 s_58.2.2.1 s_58.2.2.2.1 s_58.2.2.2.2.1 s_58.2.2.2.2.2.1, CW q_1 z_28 cy s_58.2.2.2.2.2.2.1 s_58.2.2.2.2.2.2.2.1, [(q_53, .inr (9, [.long s_58.2.2.2.2.2.2.2.2.1, a2_58]))]] s_58.2.2.2.2.2.2.2.2.2.1 s_58.2.2.2.2.2.2.2.2.2.2 [(0, .ref b), (1, .ref q_1), (2, .ref q_29), (3, .ref q_53), (4, .int s_58.1)] 547 [.int r_227, .int (xs (s_58.1 + 2).toNatClampNeg), .int (xs (s_58.1 + 1).toNatClampNeg), .ref q_1] := by
        refine xr_aload_n (n := 548) (j := 3) C dd_L_law_17.2.2.2.2.2.2.2.2.2.2.2.2.2.2.1 rfl rfl ?_
        obtain ⟨x_228, hx_228, ho_58⟩ := yf_b ho_58
        obtain ⟨g_229, ho_58⟩ := yf_g ho_58
        refine xr_callSW (n := 551) (As := [.ref q_1, .int (xs (s_58.1 + 1).toNatClampNeg), .int (xs (s_58.1 + 2).toNatClampNeg), .int r_227, .ref q_53]) (rest := []) C (kgL_broken l D cy hl0 (x := q_1) (a := z_28) (o := q_53) (os := a2_58) (n := s_58.2.2.2.2.2.2.1) (t := s_58.2.2.2.2.2.2.2.1) (on := s_58.2.2.2.2.2.2.2.2.1) (i1 := xs (s_58.1 + 1).toNatClampNeg) (i2 := xs (s_58.1 + 2).toNatClampNeg) (isb := r_227) hx_228) mL_broken u_723 u_724 3 [1, 2] [0] rfl (by decide +kernel) rfl rfl rfl rfl (Nat.le_of_ble_eq_true rfl) (Nat.le_of_ble_eq_true rfl) (Nat.le_of_ble_eq_true rfl) g_229.1 g_229.2 dd_L_law_17.2.2.2.2.2.2.2.2.2.2.2.2.2.2.2.1 rfl (fun v_230 u_231 hp_232 => ?_)
        obtain ⟨q_233, rfl, rfl⟩ := hp_232
        refine xr_perm C 3 [2, 0, 1] [] [MW q_29 a0_58 a1_58 cy s_58.2.1 s_58.2.2.1 s_58.2.2.2.1 s_58.2.2.2.2.1 s_58.2.2.2.2.2.1, CW q_1 z_28 cy x_228.2.1 x_228.2.2.1, [(q_53, .inr (9, [.long x_228.2.2.2, q_233]))]] rfl (by decide +kernel) rfl ?_
        refine xr_st (st' := [.int x_228.1]) rfl ?_
        refine xr_istore (n := 553) C [(5, .int x_228.1), (0, .ref b), (1, .ref q_1), (2, .ref q_29), (3, .ref q_53), (4, .int s_58.1)] dd_L_law_18.1 (by decide) rfl rfl ?_
        refine xr_aload_n (n := 554) (j := 3) C dd_L_law_18.2.1 rfl rfl ?_
        refine xr_aload_n (n := 555) (j := 1) C dd_L_law_18.2.2.1 rfl rfl ?_
        refine xr_iload (n := 557) (j := 5) C dd_L_law_18.2.2.2.1 rfl rfl ?_
        refine xr_iconst (n := 558) (v := 1) C dd_L_law_18.2.2.2.2.1 rfl rfl ?_
        refine xr_iadd (n := 559) C dd_L_law_18.2.2.2.2.2.1 rfl ?_
        obtain ⟨g_234, ho_58⟩ := yf_g ho_58
        refine xr_sld (n := 560) C hX hbl hbA g_234 dd_L_law_18.2.2.2.2.2.2.1 rfl ?_
        refine xr_aload_n (n := 561) (j := 1) C dd_L_law_18.2.2.2.2.2.2.2.1 rfl rfl ?_
        refine xr_iload (n := 563) (j := 5) C dd_L_law_18.2.2.2.2.2.2.2.2.1 rfl rfl ?_
        refine xr_iconst (n := 564) (v := 2) C dd_L_law_18.2.2.2.2.2.2.2.2.2.1 rfl rfl ?_
        refine xr_iadd (n := 565) C dd_L_law_18.2.2.2.2.2.2.2.2.2.2.1 rfl ?_
        obtain ⟨g_235, ho_58⟩ := yf_g ho_58
        refine xr_sld (n := 566) C hX hbl hbA g_235 dd_L_law_18.2.2.2.2.2.2.2.2.2.2.2.1 rfl ?_
        refine xr_aload_n (n := 567) (j := 1) C dd_L_law_18.2.2.2.2.2.2.2.2.2.2.2.2.1 rfl rfl ?_
        refine xr_iload (n := 569) (j := 5) C dd_L_law_18.2.2.2.2.2.2.2.2.2.2.2.2.2.1 rfl rfl ?_
        refine xr_iconst (n := 570) (v := 3) C dd_L_law_18.2.2.2.2.2.2.2.2.2.2.2.2.2.2.1 rfl rfl ?_
        refine xr_iadd (n := 571) C dd_L_law_18.2.2.2.2.2.2.2.2.2.2.2.2.2.2.2.1 rfl ?_
        obtain ⟨g_236, ho_58⟩ := yf_g ho_58
        refine xr_sld (n := 572) C hX hbl hbA g_236 dd_L_law_19.1 rfl ?_
        obtain ⟨r_238, hE_238, ho_58⟩ := yf_b ho_58
        have J_238 : X p l e room_1 s m args below meth c D A H0 7 Q [MW q_29 a0_58 a1_58 cy s_58.2.1 s_58.2.2.1 s_58.2.2.2.1 s_58.2.2.2.2.1 s_58.2.2.2.2.2.1, CW q_1 z_28 cy x_228.2.1 x_228.2.2.1, [(q_53, .inr (9, [.long x_228.2.2.2, q_233]))]] (s_58.2.2.2.2.2.2.2.2.2.1 + 1) (s_58.2.2.2.2.2.2.2.2.2.2 + 6) [(0, .ref b), (1, .ref q_1), (2, .ref q_29), (3, .ref q_53), (4, .int s_58.1), (5, .int x_228.1)] 580 [.int r_238, .int (xs (s_58.1 + 2).toNatClampNeg), .int (xs (s_58.1 + 1).toNatClampNeg), .ref q_29] := by
          obtain ⟨x_239, hx_239, ho_58⟩ := yf_b ho_58
          refine xr_callVP (n := 583) (As := [.int (xs (s_58.1 + 1).toNatClampNeg), .int (xs (s_58.1 + 2).toNatClampNeg), .int r_238]) (rest := []) C (kgX9w_broken l D cy (g := q_29) (a := a0_58) (ad := a1_58) (sh := s_58.2.1) (n := s_58.2.2.1) (L := s_58.2.2.2.1) (k := s_58.2.2.2.2.1) (G := s_58.2.2.2.2.2.1) (i1 := xs (s_58.1 + 1).toNatClampNeg) (i2 := xs (s_58.1 + 2).toNatClampNeg) (isb := r_238) hx_239) mX9_broken u_1331 u_1332 u_1333 0 rfl (MW_head _ _ _ _ _ _ _ _ _) rfl 3 [0] [1, 2] rfl (by decide +kernel) rfl rfl rfl rfl (Nat.le_of_ble_eq_true rfl) (Nat.le_of_ble_eq_true rfl) (Nat.le_of_ble_eq_true rfl) g_229.1 g_229.2 dd_L_law_19.2.2.2.2.2.1 rfl (fun v_240 u_241 hp_242 => ?_)
          obtain ⟨q_243, q_244, rfl, rfl⟩ := hp_242
          refine xr_perm C 3 [0, 1, 2] [] [MW q_29 q_243 q_244 cy x_239.2.1 x_239.2.2.1 x_239.2.2.2.1 x_239.2.2.2.2.1 x_239.2.2.2.2.2, CW q_1 z_28 cy x_228.2.1 x_228.2.2.1, [(q_53, .inr (9, [.long x_228.2.2.2, q_233]))]] rfl (by decide +kernel) rfl ?_
          refine xr_st (st' := [.int x_239.1]) rfl ?_
          refine xr_istore (n := 585) C [(6, .int x_239.1), (0, .ref b), (1, .ref q_1), (2, .ref q_29), (3, .ref q_53), (4, .int s_58.1), (5, .int x_228.1)] dd_L_law_19.2.2.2.2.2.2.1 (by decide) rfl rfl ?_
          refine xr_aload_n (n := 586) (j := 3) C dd_L_law_19.2.2.2.2.2.2.2.1 rfl rfl ?_
          obtain ⟨x_245, hx_245, ho_58⟩ := yf_b ho_58
          refine xr_callVP (n := 589) (As := []) (rest := []) C (kgX9w_thrown l D cy (g := q_29) (a := q_243) (ad := q_244) (sh := x_239.2.1) (n := x_239.2.2.1) (L := x_239.2.2.2.1) (k := x_239.2.2.2.2.1) (G := x_239.2.2.2.2.2) hx_245) mX9_thrown u_1290 u_1291 u_1292 0 rfl (MW_head _ _ _ _ _ _ _ _ _) rfl 3 [0] [1, 2] rfl (by decide +kernel) rfl rfl rfl rfl (Nat.le_of_ble_eq_true rfl) (Nat.le_of_ble_eq_true rfl) (Nat.le_of_ble_eq_true rfl) g_229.1 g_229.2 dd_L_law_19.2.2.2.2.2.2.2.2.1 rfl (fun v_246 u_247 hp_248 => ?_)
          obtain ⟨q_249, q_250, rfl, rfl⟩ := hp_248
          refine xr_perm C 3 [0, 1, 2] [] [MW q_29 q_249 q_250 cy x_245.2.1 x_245.2.2.1 x_245.2.2.2.1 x_245.2.2.2.2.1 x_245.2.2.2.2.2, CW q_1 z_28 cy x_228.2.1 x_228.2.2.1, [(q_53, .inr (9, [.long x_228.2.2.2, q_233]))]] rfl (by decide +kernel) rfl ?_
          refine xr_st (st' := [.int x_245.1]) rfl ?_
          refine xr_iload (n := 591) (j := 6) C dd_L_law_19.2.2.2.2.2.2.2.2.2.1 rfl rfl ?_
          refine xr_icmp_eq (tgt := 596) (n := 594) C dd_L_law_19.2.2.2.2.2.2.2.2.2.2.1 rfl rfl (fun c_251 => ?_) (fun c_251 => ?_)
          · replace ho_58 := yf_t c_251 ho_58
            refine xr_iload (n := 598) (j := 6) C dd_L_law_19.2.2.2.2.2.2.2.2.2.2.2.2.2.1 rfl rfl ?_
            refine xr_if_ne (tgt := 614) (n := 601) C dd_L_law_19.2.2.2.2.2.2.2.2.2.2.2.2.2.2.1 rfl rfl (fun c_252 => ?_) (fun c_252 => ?_)
            · replace ho_58 := yf_f c_252 ho_58
              refine xr_goto (tgt := 1390) C dd_L_law_20.2.2.2.2.2.2.2.1 rfl ?_
              refine xr_iinc (j := 5) (v := s_58.1 + 4) (n := 1393) C [(4, .int (s_58.1 + 4)), (6, .int x_239.1), (0, .ref b), (1, .ref q_1), (2, .ref q_29), (3, .ref q_53), (5, .int x_228.1)] dd_L_law_49.2.2.2.2.2.2.2.2.2.2.2.2.2.1 rfl rfl (by decide) rfl rfl ?_
              refine xr_goto (tgt := 27) C dd_L_law_49.2.2.2.2.2.2.2.2.2.2.2.2.2.2.1 rfl ?_
              refine xr_lv (lv' := [(0, .ref b), (1, .ref q_1), (2, .ref q_29), (3, .ref q_53), (4, .int (s_58.1 + 4))]) [2, 3, 4, 5, 0] rfl ?_
              exact hk_58 (s_58.1 + 4, x_245.2.1, x_245.2.2.1, x_245.2.2.2.1, x_245.2.2.2.2.1, x_245.2.2.2.2.2, x_228.2.1, x_228.2.2.1, x_228.2.2.2, s_58.2.2.2.2.2.2.2.2.2.1 + 1, s_58.2.2.2.2.2.2.2.2.2.2 + 6) (Option.some.inj ho_58).symm q_249 q_250 q_233
            · replace ho_58 := yf_t c_252 ho_58
              refine xr_aload_n (n := 602) (j := 4) C dd_L_law_19.2.2.2.2.2.2.2.2.2.2.2.2.2.2.2.1 rfl rfl ?_
              refine xr_getN (n := 605) C 2 rfl rfl 0 (by decide) in_X7 RL (List.mem_of_getElem? (i := 46) rfl) rfl (v := .long x_228.2.2.2) rfl dd_L_law_20.1 rfl ?_
              refine xr_iload (n := 607) (j := 0) C dd_L_law_20.2.1 rfl rfl ?_
              refine xr_i2l (n := 608) C dd_L_law_20.2.2.1 rfl ?_
              refine xr_lcmp (n := 609) C dd_L_law_20.2.2.2.1 rfl ?_
              refine xr_if_eq (tgt := 614) (n := 612) C dd_L_law_20.2.2.2.2.1 rfl rfl (fun c_253 => ?_) (fun c_253 => ?_)
              · replace ho_58 := yf_t c_253 ho_58
                refine xr_goto (tgt := 1390) C dd_L_law_20.2.2.2.2.2.2.2.1 rfl ?_
                refine xr_iinc (j := 5) (v := s_58.1 + 4) (n := 1393) C [(4, .int (s_58.1 + 4)), (6, .int x_239.1), (0, .ref b), (1, .ref q_1), (2, .ref q_29), (3, .ref q_53), (5, .int x_228.1)] dd_L_law_49.2.2.2.2.2.2.2.2.2.2.2.2.2.1 rfl rfl (by decide) rfl rfl ?_
                refine xr_goto (tgt := 27) C dd_L_law_49.2.2.2.2.2.2.2.2.2.2.2.2.2.2.1 rfl ?_
                refine xr_lv (lv' := [(0, .ref b), (1, .ref q_1), (2, .ref q_29), (3, .ref q_53), (4, .int (s_58.1 + 4))]) [2, 3, 4, 5, 0] rfl ?_
                exact hk_58 (s_58.1 + 4, x_245.2.1, x_245.2.2.1, x_245.2.2.2.1, x_245.2.2.2.2.1, x_245.2.2.2.2.2, x_228.2.1, x_228.2.2.1, x_228.2.2.2, s_58.2.2.2.2.2.2.2.2.2.1 + 1, s_58.2.2.2.2.2.2.2.2.2.2 + 6) (Option.some.inj ho_58).symm q_249 q_250 q_233
              · replace ho_58 := yf_f c_253 ho_58
                refine xr_iconst (n := 613) (v := 0) C dd_L_law_20.2.2.2.2.2.1 rfl rfl ?_
                have e_254 := hx_58 _ (Option.some.inj ho_58).symm
                subst e_254
                replace hR := ybr_r hR
                obtain rfl := Option.some.inj hR
                exact ret 0 rfl g_229.1 g_229.2 dd_L_law_20.2.2.2.2.2.2.1
          · replace ho_58 := yf_f c_251 ho_58
            refine xr_iconst (n := 595) (v := 0) C dd_L_law_19.2.2.2.2.2.2.2.2.2.2.2.1 rfl rfl ?_
            have e_255 := hx_58 _ (Option.some.inj ho_58).symm
            subst e_255
            replace hR := ybr_r hR
            obtain rfl := Option.some.inj hR
            exact ret 0 rfl g_229.1 g_229.2 dd_L_law_19.2.2.2.2.2.2.2.2.2.2.2.2.1
        refine xr_if_eq (tgt := 579) (n := 575) C dd_L_law_19.2.1 rfl rfl (fun c_256 => ?_) (fun c_256 => ?_)
        · replace hE_238 := yf_t c_256 hE_238
          refine xr_iconst (n := 580) (v := 0) C dd_L_law_19.2.2.2.2.1 rfl rfl ?_
          refine xr_lv (lv' := [(0, .ref b), (1, .ref q_1), (2, .ref q_29), (3, .ref q_53), (4, .int s_58.1), (5, .int x_228.1)]) [1, 2, 3, 4, 5, 0] rfl ?_
          have e_257 := Option.some.inj hE_238
          subst e_257
          exact J_238
        · replace hE_238 := yf_f c_256 hE_238
          refine xr_iconst (n := 576) (v := 1) C dd_L_law_19.2.2.1 rfl rfl ?_
          refine xr_goto (tgt := 580) C dd_L_law_19.2.2.2.1 rfl ?_
          refine xr_lv (lv' := [(0, .ref b), (1, .ref q_1), (2, .ref q_29), (3, .ref q_53), (4, .int s_58.1), (5, .int x_228.1)]) [1, 2, 3, 4, 5, 0] rfl ?_
          have e_258 := Option.some.inj hE_238
          subst e_258
          exact J_238
      refine xr_if_eq (tgt := 546) (n := 542) C dd_L_law_17.2.2.2.2.2.2.2.2.2.2.1 rfl rfl (fun c_259 => ?_) (fun c_259 => ?_)
      · replace hE_227 := yf_t c_259 hE_227
        refine xr_iconst (n := 547) (v := 0) C dd_L_law_17.2.2.2.2.2.2.2.2.2.2.2.2.2.1 rfl rfl ?_
        have e_260 := Option.some.inj hE_227
        subst e_260
        exact J_227
      · replace hE_227 := yf_f c_259 hE_227
        refine xr_iconst (n := 543) (v := 1) C dd_L_law_17.2.2.2.2.2.2.2.2.2.2.2.1 rfl rfl ?_
        refine xr_goto (tgt := 547) C dd_L_law_17.2.2.2.2.2.2.2.2.2.2.2.2.1 rfl ?_
        have e_261 := Option.some.inj hE_227
        subst e_261
        exact J_227
    replace ho_58 := yf_f c_222 ho_58
    by_cases c_262 : ((xs s_58.1.toNatClampNeg) &&& 31) = 6
    · replace ho_58 := yf_t c_262 ho_58
      refine xr_tableIn (off := 574) (tgt := 617) C dL_law_43 (by rw [c_262]; decide) (by rw [c_262]; decide) (by rw [c_262]; decide) rfl ?_
      refine xr_aload_n (n := 618) (j := 1) C dd_L_law_20.2.2.2.2.2.2.2.2.1 rfl rfl ?_
      refine xr_aload_n (n := 619) (j := 3) C dd_L_law_20.2.2.2.2.2.2.2.2.2.1 rfl rfl ?_
      obtain ⟨x_263, hx_263, ho_58⟩ := yf_b ho_58
      obtain ⟨g_264, ho_58⟩ := yf_g ho_58
      refine xr_callSW (n := 622) (As := [.ref q_1, .ref q_53]) (rest := []) C (kgL_test l D cy hl0 (x := q_1) (a := z_28) (o := q_53) (os := a2_58) (n := s_58.2.2.2.2.2.2.1) (t := s_58.2.2.2.2.2.2.2.1) (on := s_58.2.2.2.2.2.2.2.2.1) hx_263) mL_test u_738 u_739 3 [1, 2] [0] rfl (by decide +kernel) rfl rfl rfl rfl (Nat.le_of_ble_eq_true rfl) (Nat.le_of_ble_eq_true rfl) (Nat.le_of_ble_eq_true rfl) g_264.1 g_264.2 dd_L_law_20.2.2.2.2.2.2.2.2.2.2.1 rfl (fun v_265 u_266 hp_267 => ?_)
      obtain ⟨q_268, rfl, rfl⟩ := hp_267
      refine xr_perm C 3 [2, 0, 1] [] [MW q_29 a0_58 a1_58 cy s_58.2.1 s_58.2.2.1 s_58.2.2.2.1 s_58.2.2.2.2.1 s_58.2.2.2.2.2.1, CW q_1 z_28 cy x_263.2.1 x_263.2.2.1, [(q_53, .inr (9, [.long x_263.2.2.2, q_268]))]] rfl (by decide +kernel) rfl ?_
      refine xr_st (st' := [.int x_263.1]) rfl ?_
      refine xr_istore (n := 624) C [(5, .int x_263.1), (0, .ref b), (1, .ref q_1), (2, .ref q_29), (3, .ref q_53), (4, .int s_58.1)] dd_L_law_20.2.2.2.2.2.2.2.2.2.2.2.1 (by decide) rfl rfl ?_
      refine xr_aload_n (n := 625) (j := 3) C dd_L_law_20.2.2.2.2.2.2.2.2.2.2.2.2.1 rfl rfl ?_
      obtain ⟨x_269, hx_269, ho_58⟩ := yf_b ho_58
      obtain ⟨g_270, ho_58⟩ := yf_g ho_58
      refine xr_callVP (n := 628) (As := []) (rest := []) C (kgX9w_test l D cy (g := q_29) (a := a0_58) (ad := a1_58) (sh := s_58.2.1) (n := s_58.2.2.1) (L := s_58.2.2.2.1) (k := s_58.2.2.2.2.1) (G := s_58.2.2.2.2.2.1) hx_269) mX9_test u_1342 u_1343 u_1344 0 rfl (MW_head _ _ _ _ _ _ _ _ _) rfl 3 [0] [1, 2] rfl (by decide +kernel) rfl rfl rfl rfl (Nat.le_of_ble_eq_true rfl) (Nat.le_of_ble_eq_true rfl) (Nat.le_of_ble_eq_true rfl) g_270.1 g_270.2 dd_L_law_20.2.2.2.2.2.2.2.2.2.2.2.2.2.1 rfl (fun v_271 u_272 hp_273 => ?_)
      obtain ⟨q_274, q_275, rfl, rfl⟩ := hp_273
      refine xr_perm C 3 [0, 1, 2] [] [MW q_29 q_274 q_275 cy x_269.2.1 x_269.2.2.1 x_269.2.2.2.1 x_269.2.2.2.2.1 x_269.2.2.2.2.2, CW q_1 z_28 cy x_263.2.1 x_263.2.2.1, [(q_53, .inr (9, [.long x_263.2.2.2, q_268]))]] rfl (by decide +kernel) rfl ?_
      refine xr_st (st' := [.int x_269.1]) rfl ?_
      refine xr_istore (n := 630) C [(6, .int x_269.1), (5, .int x_263.1), (0, .ref b), (1, .ref q_1), (2, .ref q_29), (3, .ref q_53), (4, .int s_58.1)] dd_L_law_20.2.2.2.2.2.2.2.2.2.2.2.2.2.2.1 (by decide) rfl rfl ?_
      refine xr_aload_n (n := 631) (j := 4) C dd_L_law_20.2.2.2.2.2.2.2.2.2.2.2.2.2.2.2.1 rfl rfl ?_
      obtain ⟨x_276, hx_276, ho_58⟩ := yf_b ho_58
      refine xr_callVP (n := 634) (As := []) (rest := []) C (kgX9w_thrown l D cy (g := q_29) (a := q_274) (ad := q_275) (sh := x_269.2.1) (n := x_269.2.2.1) (L := x_269.2.2.2.1) (k := x_269.2.2.2.2.1) (G := x_269.2.2.2.2.2) hx_276) mX9_thrown u_1290 u_1291 u_1292 0 rfl (MW_head _ _ _ _ _ _ _ _ _) rfl 3 [0] [1, 2] rfl (by decide +kernel) rfl rfl rfl rfl (Nat.le_of_ble_eq_true rfl) (Nat.le_of_ble_eq_true rfl) (Nat.le_of_ble_eq_true rfl) g_270.1 g_270.2 dd_L_law_21.1 rfl (fun v_277 u_278 hp_279 => ?_)
      obtain ⟨q_280, q_281, rfl, rfl⟩ := hp_279
      refine xr_perm C 3 [0, 1, 2] [] [MW q_29 q_280 q_281 cy x_276.2.1 x_276.2.2.1 x_276.2.2.2.1 x_276.2.2.2.2.1 x_276.2.2.2.2.2, CW q_1 z_28 cy x_263.2.1 x_263.2.2.1, [(q_53, .inr (9, [.long x_263.2.2.2, q_268]))]] rfl (by decide +kernel) rfl ?_
      refine xr_st (st' := [.int x_276.1]) rfl ?_
      refine xr_iload (n := 636) (j := 1) C dd_L_law_21.2.1 rfl rfl ?_
      refine xr_icmp_eq (tgt := 641) (n := 639) C dd_L_law_21.2.2.1 rfl rfl (fun c_282 => ?_) (fun c_282 => ?_)
      · replace ho_58 := yf_t c_282 ho_58
        refine xr_iload (n := 643) (j := 1) C dd_L_law_21.2.2.2.2.2.1 rfl rfl ?_
        refine xr_if_ne (tgt := 659) (n := 646) C dd_L_law_21.2.2.2.2.2.2.1 rfl rfl (fun c_283 => ?_) (fun c_283 => ?_)
        · replace ho_58 := yf_f c_283 ho_58
          refine xr_goto (tgt := 1390) C dd_L_law_21.2.2.2.2.2.2.2.2.2.2.2.2.2.2.2.1 rfl ?_
          refine xr_iinc (j := 6) (v := s_58.1 + 4) (n := 1393) C [(4, .int (s_58.1 + 4)), (6, .int x_269.1), (5, .int x_263.1), (0, .ref b), (1, .ref q_1), (2, .ref q_29), (3, .ref q_53)] dd_L_law_49.2.2.2.2.2.2.2.2.2.2.2.2.2.1 rfl rfl (by decide) rfl rfl ?_
          refine xr_goto (tgt := 27) C dd_L_law_49.2.2.2.2.2.2.2.2.2.2.2.2.2.2.1 rfl ?_
          refine xr_lv (lv' := [(0, .ref b), (1, .ref q_1), (2, .ref q_29), (3, .ref q_53), (4, .int (s_58.1 + 4))]) [3, 4, 5, 6, 0] rfl ?_
          exact hk_58 (s_58.1 + 4, x_276.2.1, x_276.2.2.1, x_276.2.2.2.1, x_276.2.2.2.2.1, x_276.2.2.2.2.2, x_263.2.1, x_263.2.2.1, x_263.2.2.2, s_58.2.2.2.2.2.2.2.2.2.1 + 1 + 10, s_58.2.2.2.2.2.2.2.2.2.2 + 6 + 50) (Option.some.inj ho_58).symm q_280 q_281 q_268
        · replace ho_58 := yf_t c_283 ho_58
          refine xr_aload_n (n := 647) (j := 5) C dd_L_law_21.2.2.2.2.2.2.2.1 rfl rfl ?_
          refine xr_getN (n := 650) C 2 rfl rfl 0 (by decide) in_X7 RL (List.mem_of_getElem? (i := 46) rfl) rfl (v := .long x_263.2.2.2) rfl dd_L_law_21.2.2.2.2.2.2.2.2.1 rfl ?_
          refine xr_iload (n := 652) (j := 0) C dd_L_law_21.2.2.2.2.2.2.2.2.2.1 rfl rfl ?_
          refine xr_i2l (n := 653) C dd_L_law_21.2.2.2.2.2.2.2.2.2.2.1 rfl ?_
          refine xr_lcmp (n := 654) C dd_L_law_21.2.2.2.2.2.2.2.2.2.2.2.1 rfl ?_
          refine xr_if_eq (tgt := 659) (n := 657) C dd_L_law_21.2.2.2.2.2.2.2.2.2.2.2.2.1 rfl rfl (fun c_284 => ?_) (fun c_284 => ?_)
          · replace ho_58 := yf_t c_284 ho_58
            refine xr_goto (tgt := 1390) C dd_L_law_21.2.2.2.2.2.2.2.2.2.2.2.2.2.2.2.1 rfl ?_
            refine xr_iinc (j := 6) (v := s_58.1 + 4) (n := 1393) C [(4, .int (s_58.1 + 4)), (6, .int x_269.1), (5, .int x_263.1), (0, .ref b), (1, .ref q_1), (2, .ref q_29), (3, .ref q_53)] dd_L_law_49.2.2.2.2.2.2.2.2.2.2.2.2.2.1 rfl rfl (by decide) rfl rfl ?_
            refine xr_goto (tgt := 27) C dd_L_law_49.2.2.2.2.2.2.2.2.2.2.2.2.2.2.1 rfl ?_
            refine xr_lv (lv' := [(0, .ref b), (1, .ref q_1), (2, .ref q_29), (3, .ref q_53), (4, .int (s_58.1 + 4))]) [3, 4, 5, 6, 0] rfl ?_
            exact hk_58 (s_58.1 + 4, x_276.2.1, x_276.2.2.1, x_276.2.2.2.1, x_276.2.2.2.2.1, x_276.2.2.2.2.2, x_263.2.1, x_263.2.2.1, x_263.2.2.2, s_58.2.2.2.2.2.2.2.2.2.1 + 1 + 10, s_58.2.2.2.2.2.2.2.2.2.2 + 6 + 50) (Option.some.inj ho_58).symm q_280 q_281 q_268
          · replace ho_58 := yf_f c_284 ho_58
            refine xr_iconst (n := 658) (v := 0) C dd_L_law_21.2.2.2.2.2.2.2.2.2.2.2.2.2.1 rfl rfl ?_
            have e_285 := hx_58 _ (Option.some.inj ho_58).symm
            subst e_285
            replace hR := ybr_r hR
            obtain rfl := Option.some.inj hR
            exact ret 0 rfl g_270.1 g_270.2 dd_L_law_21.2.2.2.2.2.2.2.2.2.2.2.2.2.2.1
      · replace ho_58 := yf_f c_282 ho_58
        refine xr_iconst (n := 640) (v := 0) C dd_L_law_21.2.2.2.1 rfl rfl ?_
        have e_286 := hx_58 _ (Option.some.inj ho_58).symm
        subst e_286
        replace hR := ybr_r hR
        obtain rfl := Option.some.inj hR
        exact ret 0 rfl g_270.1 g_270.2 dd_L_law_21.2.2.2.2.1
    replace ho_58 := yf_f c_262 ho_58
    by_cases c_287 : ((xs s_58.1.toNatClampNeg) &&& 31) = 7
    · replace ho_58 := yf_t c_287 ho_58
      refine xr_tableIn (off := 619) (tgt := 662) C dL_law_43 (by rw [c_287]; decide) (by rw [c_287]; decide) (by rw [c_287]; decide) rfl ?_
      refine xr_aload_n (n := 663) (j := 1) C dd_L_law_22.1 rfl rfl ?_
      refine xr_aload_n (n := 664) (j := 3) C dd_L_law_22.2.1 rfl rfl ?_
      obtain ⟨x_288, hx_288, ho_58⟩ := yf_b ho_58
      obtain ⟨g_289, ho_58⟩ := yf_g ho_58
      refine xr_callSW (n := 667) (As := [.ref q_1, .ref q_53]) (rest := []) C (kgL_start l D cy hl0 (x := q_1) (a := z_28) (o := q_53) (os := a2_58) (n := s_58.2.2.2.2.2.2.1) (t := s_58.2.2.2.2.2.2.2.1) (on := s_58.2.2.2.2.2.2.2.2.1) hx_288) mL_start u_751 u_752 3 [1, 2] [0] rfl (by decide +kernel) rfl rfl rfl rfl (Nat.le_of_ble_eq_true rfl) (Nat.le_of_ble_eq_true rfl) (Nat.le_of_ble_eq_true rfl) g_289.1 g_289.2 dd_L_law_22.2.2.1 rfl (fun v_290 u_291 hp_292 => ?_)
      obtain ⟨q_293, rfl, rfl⟩ := hp_292
      refine xr_perm C 3 [2, 0, 1] [] [MW q_29 a0_58 a1_58 cy s_58.2.1 s_58.2.2.1 s_58.2.2.2.1 s_58.2.2.2.2.1 s_58.2.2.2.2.2.1, CW q_1 z_28 cy x_288.2.1 x_288.2.2.1, [(q_53, .inr (9, [.long x_288.2.2.2, q_293]))]] rfl (by decide +kernel) rfl ?_
      refine xr_st (st' := [.int x_288.1]) rfl ?_
      refine xr_istore (n := 669) C [(5, .int x_288.1), (0, .ref b), (1, .ref q_1), (2, .ref q_29), (3, .ref q_53), (4, .int s_58.1)] dd_L_law_22.2.2.2.1 (by decide) rfl rfl ?_
      refine xr_aload_n (n := 670) (j := 3) C dd_L_law_22.2.2.2.2.1 rfl rfl ?_
      obtain ⟨x_294, hx_294, ho_58⟩ := yf_b ho_58
      obtain ⟨g_295, ho_58⟩ := yf_g ho_58
      refine xr_callVP (n := 673) (As := []) (rest := []) C (kgX9w_begin l D cy (g := q_29) (a := a0_58) (ad := a1_58) (sh := s_58.2.1) (n := s_58.2.2.1) (L := s_58.2.2.2.1) (k := s_58.2.2.2.2.1) (G := s_58.2.2.2.2.2.1) hx_294) mX9_start_ u_1351 u_1352 u_1353 0 rfl (MW_head _ _ _ _ _ _ _ _ _) rfl 3 [0] [1, 2] rfl (by decide +kernel) rfl rfl rfl rfl (Nat.le_of_ble_eq_true rfl) (Nat.le_of_ble_eq_true rfl) (Nat.le_of_ble_eq_true rfl) g_295.1 g_295.2 dd_L_law_22.2.2.2.2.2.1 rfl (fun v_296 u_297 hp_298 => ?_)
      obtain ⟨q_299, q_300, rfl, rfl⟩ := hp_298
      refine xr_perm C 3 [0, 1, 2] [] [MW q_29 q_299 q_300 cy x_294.2.1 x_294.2.2.1 x_294.2.2.2.1 x_294.2.2.2.2.1 x_294.2.2.2.2.2, CW q_1 z_28 cy x_288.2.1 x_288.2.2.1, [(q_53, .inr (9, [.long x_288.2.2.2, q_293]))]] rfl (by decide +kernel) rfl ?_
      refine xr_st (st' := [.int x_294.1]) rfl ?_
      refine xr_istore (n := 675) C [(6, .int x_294.1), (5, .int x_288.1), (0, .ref b), (1, .ref q_1), (2, .ref q_29), (3, .ref q_53), (4, .int s_58.1)] dd_L_law_22.2.2.2.2.2.2.1 (by decide) rfl rfl ?_
      refine xr_aload_n (n := 676) (j := 4) C dd_L_law_22.2.2.2.2.2.2.2.1 rfl rfl ?_
      obtain ⟨x_301, hx_301, ho_58⟩ := yf_b ho_58
      refine xr_callVP (n := 679) (As := []) (rest := []) C (kgX9w_thrown l D cy (g := q_29) (a := q_299) (ad := q_300) (sh := x_294.2.1) (n := x_294.2.2.1) (L := x_294.2.2.2.1) (k := x_294.2.2.2.2.1) (G := x_294.2.2.2.2.2) hx_301) mX9_thrown u_1290 u_1291 u_1292 0 rfl (MW_head _ _ _ _ _ _ _ _ _) rfl 3 [0] [1, 2] rfl (by decide +kernel) rfl rfl rfl rfl (Nat.le_of_ble_eq_true rfl) (Nat.le_of_ble_eq_true rfl) (Nat.le_of_ble_eq_true rfl) g_295.1 g_295.2 dd_L_law_22.2.2.2.2.2.2.2.2.1 rfl (fun v_302 u_303 hp_304 => ?_)
      obtain ⟨q_305, q_306, rfl, rfl⟩ := hp_304
      refine xr_perm C 3 [0, 1, 2] [] [MW q_29 q_305 q_306 cy x_301.2.1 x_301.2.2.1 x_301.2.2.2.1 x_301.2.2.2.2.1 x_301.2.2.2.2.2, CW q_1 z_28 cy x_288.2.1 x_288.2.2.1, [(q_53, .inr (9, [.long x_288.2.2.2, q_293]))]] rfl (by decide +kernel) rfl ?_
      refine xr_st (st' := [.int x_301.1]) rfl ?_
      refine xr_iload (n := 681) (j := 1) C dd_L_law_22.2.2.2.2.2.2.2.2.2.1 rfl rfl ?_
      refine xr_icmp_eq (tgt := 686) (n := 684) C dd_L_law_22.2.2.2.2.2.2.2.2.2.2.1 rfl rfl (fun c_307 => ?_) (fun c_307 => ?_)
      · replace ho_58 := yf_t c_307 ho_58
        refine xr_iload (n := 688) (j := 1) C dd_L_law_22.2.2.2.2.2.2.2.2.2.2.2.2.2.1 rfl rfl ?_
        refine xr_if_ne (tgt := 704) (n := 691) C dd_L_law_22.2.2.2.2.2.2.2.2.2.2.2.2.2.2.1 rfl rfl (fun c_308 => ?_) (fun c_308 => ?_)
        · replace ho_58 := yf_f c_308 ho_58
          refine xr_goto (tgt := 1390) C dd_L_law_23.2.2.2.2.2.2.2.1 rfl ?_
          refine xr_iinc (j := 6) (v := s_58.1 + 4) (n := 1393) C [(4, .int (s_58.1 + 4)), (6, .int x_294.1), (5, .int x_288.1), (0, .ref b), (1, .ref q_1), (2, .ref q_29), (3, .ref q_53)] dd_L_law_49.2.2.2.2.2.2.2.2.2.2.2.2.2.1 rfl rfl (by decide) rfl rfl ?_
          refine xr_goto (tgt := 27) C dd_L_law_49.2.2.2.2.2.2.2.2.2.2.2.2.2.2.1 rfl ?_
          refine xr_lv (lv' := [(0, .ref b), (1, .ref q_1), (2, .ref q_29), (3, .ref q_53), (4, .int (s_58.1 + 4))]) [3, 4, 5, 6, 0] rfl ?_
          exact hk_58 (s_58.1 + 4, x_301.2.1, x_301.2.2.1, x_301.2.2.2.1, x_301.2.2.2.2.1, x_301.2.2.2.2.2, x_288.2.1, x_288.2.2.1, x_288.2.2.2, s_58.2.2.2.2.2.2.2.2.2.1 + 1 + 100, s_58.2.2.2.2.2.2.2.2.2.2 + 6 + 500) (Option.some.inj ho_58).symm q_305 q_306 q_293
        · replace ho_58 := yf_t c_308 ho_58
          refine xr_aload_n (n := 692) (j := 5) C dd_L_law_22.2.2.2.2.2.2.2.2.2.2.2.2.2.2.2.1 rfl rfl ?_
          refine xr_getN (n := 695) C 2 rfl rfl 0 (by decide) in_X7 RL (List.mem_of_getElem? (i := 46) rfl) rfl (v := .long x_288.2.2.2) rfl dd_L_law_23.1 rfl ?_
          refine xr_iload (n := 697) (j := 0) C dd_L_law_23.2.1 rfl rfl ?_
          refine xr_i2l (n := 698) C dd_L_law_23.2.2.1 rfl ?_
          refine xr_lcmp (n := 699) C dd_L_law_23.2.2.2.1 rfl ?_
          refine xr_if_eq (tgt := 704) (n := 702) C dd_L_law_23.2.2.2.2.1 rfl rfl (fun c_309 => ?_) (fun c_309 => ?_)
          · replace ho_58 := yf_t c_309 ho_58
            refine xr_goto (tgt := 1390) C dd_L_law_23.2.2.2.2.2.2.2.1 rfl ?_
            refine xr_iinc (j := 6) (v := s_58.1 + 4) (n := 1393) C [(4, .int (s_58.1 + 4)), (6, .int x_294.1), (5, .int x_288.1), (0, .ref b), (1, .ref q_1), (2, .ref q_29), (3, .ref q_53)] dd_L_law_49.2.2.2.2.2.2.2.2.2.2.2.2.2.1 rfl rfl (by decide) rfl rfl ?_
            refine xr_goto (tgt := 27) C dd_L_law_49.2.2.2.2.2.2.2.2.2.2.2.2.2.2.1 rfl ?_
            refine xr_lv (lv' := [(0, .ref b), (1, .ref q_1), (2, .ref q_29), (3, .ref q_53), (4, .int (s_58.1 + 4))]) [3, 4, 5, 6, 0] rfl ?_
            exact hk_58 (s_58.1 + 4, x_301.2.1, x_301.2.2.1, x_301.2.2.2.1, x_301.2.2.2.2.1, x_301.2.2.2.2.2, x_288.2.1, x_288.2.2.1, x_288.2.2.2, s_58.2.2.2.2.2.2.2.2.2.1 + 1 + 100, s_58.2.2.2.2.2.2.2.2.2.2 + 6 + 500) (Option.some.inj ho_58).symm q_305 q_306 q_293
          · replace ho_58 := yf_f c_309 ho_58
            refine xr_iconst (n := 703) (v := 0) C dd_L_law_23.2.2.2.2.2.1 rfl rfl ?_
            have e_310 := hx_58 _ (Option.some.inj ho_58).symm
            subst e_310
            replace hR := ybr_r hR
            obtain rfl := Option.some.inj hR
            exact ret 0 rfl g_295.1 g_295.2 dd_L_law_23.2.2.2.2.2.2.1
      · replace ho_58 := yf_f c_307 ho_58
        refine xr_iconst (n := 685) (v := 0) C dd_L_law_22.2.2.2.2.2.2.2.2.2.2.2.1 rfl rfl ?_
        have e_311 := hx_58 _ (Option.some.inj ho_58).symm
        subst e_311
        replace hR := ybr_r hR
        obtain rfl := Option.some.inj hR
        exact ret 0 rfl g_295.1 g_295.2 dd_L_law_22.2.2.2.2.2.2.2.2.2.2.2.2.1
    replace ho_58 := yf_f c_287 ho_58
    by_cases c_312 : ((xs s_58.1.toNatClampNeg) &&& 31) = 8
    · replace ho_58 := yf_t c_312 ho_58
      refine xr_tableIn (off := 664) (tgt := 707) C dL_law_43 (by rw [c_312]; decide) (by rw [c_312]; decide) (by rw [c_312]; decide) rfl ?_
      refine xr_aload_n (n := 708) (j := 1) C dd_L_law_23.2.2.2.2.2.2.2.2.1 rfl rfl ?_
      refine xr_aload_n (n := 709) (j := 0) C dd_L_law_23.2.2.2.2.2.2.2.2.2.1 rfl rfl ?_
      refine xr_iload (n := 711) (j := 4) C dd_L_law_23.2.2.2.2.2.2.2.2.2.2.1 rfl rfl ?_
      refine xr_iconst (n := 712) (v := 1) C dd_L_law_23.2.2.2.2.2.2.2.2.2.2.2.1 rfl rfl ?_
      refine xr_iadd (n := 713) C dd_L_law_23.2.2.2.2.2.2.2.2.2.2.2.2.1 rfl ?_
      obtain ⟨g_313, ho_58⟩ := yf_g ho_58
      refine xr_sld (n := 714) C hX hbl hbA g_313 dd_L_law_23.2.2.2.2.2.2.2.2.2.2.2.2.2.1 rfl ?_
      refine xr_aload_n (n := 715) (j := 3) C dd_L_law_23.2.2.2.2.2.2.2.2.2.2.2.2.2.2.1 rfl rfl ?_
      obtain ⟨x_314, hx_314, ho_58⟩ := yf_b ho_58
      obtain ⟨g_315, ho_58⟩ := yf_g ho_58
      refine xr_callSW (n := 718) (As := [.ref q_1, .int (xs (s_58.1 + 1).toNatClampNeg), .ref q_53]) (rest := []) C (kgL_beat l D cy hl0 (x := q_1) (a := z_28) (o := q_53) (os := a2_58) (n := s_58.2.2.2.2.2.2.1) (t := s_58.2.2.2.2.2.2.2.1) (on := s_58.2.2.2.2.2.2.2.2.1) (i1 := xs (s_58.1 + 1).toNatClampNeg) hx_314) mL_beat u_787 u_788 3 [1, 2] [0] rfl (by decide +kernel) rfl rfl rfl rfl (Nat.le_of_ble_eq_true rfl) (Nat.le_of_ble_eq_true rfl) (Nat.le_of_ble_eq_true rfl) g_315.1 g_315.2 dd_L_law_23.2.2.2.2.2.2.2.2.2.2.2.2.2.2.2.1 rfl (fun v_316 u_317 hp_318 => ?_)
      obtain ⟨q_319, rfl, rfl⟩ := hp_318
      refine xr_perm C 3 [2, 0, 1] [] [MW q_29 a0_58 a1_58 cy s_58.2.1 s_58.2.2.1 s_58.2.2.2.1 s_58.2.2.2.2.1 s_58.2.2.2.2.2.1, CW q_1 z_28 cy x_314.2.1 x_314.2.2.1, [(q_53, .inr (9, [.long x_314.2.2.2, q_319]))]] rfl (by decide +kernel) rfl ?_
      refine xr_st (st' := [.int x_314.1]) rfl ?_
      refine xr_istore (n := 720) C [(5, .int x_314.1), (0, .ref b), (1, .ref q_1), (2, .ref q_29), (3, .ref q_53), (4, .int s_58.1)] dd_L_law_24.1 (by decide) rfl rfl ?_
      refine xr_aload_n (n := 721) (j := 3) C dd_L_law_24.2.1 rfl rfl ?_
      refine xr_aload_n (n := 722) (j := 1) C dd_L_law_24.2.2.1 rfl rfl ?_
      refine xr_iload (n := 724) (j := 5) C dd_L_law_24.2.2.2.1 rfl rfl ?_
      refine xr_iconst (n := 725) (v := 1) C dd_L_law_24.2.2.2.2.1 rfl rfl ?_
      refine xr_iadd (n := 726) C dd_L_law_24.2.2.2.2.2.1 rfl ?_
      obtain ⟨g_320, ho_58⟩ := yf_g ho_58
      refine xr_sld (n := 727) C hX hbl hbA g_320 dd_L_law_24.2.2.2.2.2.2.1 rfl ?_
      obtain ⟨x_321, hx_321, ho_58⟩ := yf_b ho_58
      obtain ⟨g_322, ho_58⟩ := yf_g ho_58
      refine xr_callVP (n := 730) (As := [.int (xs (s_58.1 + 1).toNatClampNeg)]) (rest := []) C (kgX9w_beat l D cy (g := q_29) (a := a0_58) (ad := a1_58) (sh := s_58.2.1) (n := s_58.2.2.1) (L := s_58.2.2.2.1) (k := s_58.2.2.2.2.1) (G := s_58.2.2.2.2.2.1) (i1 := xs (s_58.1 + 1).toNatClampNeg) hx_321) mX9_beat u_1434 u_1435 u_1436 0 rfl (MW_head _ _ _ _ _ _ _ _ _) rfl 3 [0] [1, 2] rfl (by decide +kernel) rfl rfl rfl rfl (Nat.le_of_ble_eq_true rfl) (Nat.le_of_ble_eq_true rfl) (Nat.le_of_ble_eq_true rfl) g_322.1 g_322.2 dd_L_law_24.2.2.2.2.2.2.2.1 rfl (fun v_323 u_324 hp_325 => ?_)
      obtain ⟨q_326, q_327, rfl, rfl⟩ := hp_325
      refine xr_perm C 3 [0, 1, 2] [] [MW q_29 q_326 q_327 cy x_321.2.1 x_321.2.2.1 x_321.2.2.2.1 x_321.2.2.2.2.1 x_321.2.2.2.2.2, CW q_1 z_28 cy x_314.2.1 x_314.2.2.1, [(q_53, .inr (9, [.long x_314.2.2.2, q_319]))]] rfl (by decide +kernel) rfl ?_
      refine xr_st (st' := [.int x_321.1]) rfl ?_
      refine xr_istore (n := 732) C [(6, .int x_321.1), (5, .int x_314.1), (0, .ref b), (1, .ref q_1), (2, .ref q_29), (3, .ref q_53), (4, .int s_58.1)] dd_L_law_24.2.2.2.2.2.2.2.2.1 (by decide) rfl rfl ?_
      refine xr_aload_n (n := 733) (j := 4) C dd_L_law_24.2.2.2.2.2.2.2.2.2.1 rfl rfl ?_
      obtain ⟨x_328, hx_328, ho_58⟩ := yf_b ho_58
      refine xr_callVP (n := 736) (As := []) (rest := []) C (kgX9w_thrown l D cy (g := q_29) (a := q_326) (ad := q_327) (sh := x_321.2.1) (n := x_321.2.2.1) (L := x_321.2.2.2.1) (k := x_321.2.2.2.2.1) (G := x_321.2.2.2.2.2) hx_328) mX9_thrown u_1290 u_1291 u_1292 0 rfl (MW_head _ _ _ _ _ _ _ _ _) rfl 3 [0] [1, 2] rfl (by decide +kernel) rfl rfl rfl rfl (Nat.le_of_ble_eq_true rfl) (Nat.le_of_ble_eq_true rfl) (Nat.le_of_ble_eq_true rfl) g_322.1 g_322.2 dd_L_law_24.2.2.2.2.2.2.2.2.2.2.1 rfl (fun v_329 u_330 hp_331 => ?_)
      obtain ⟨q_332, q_333, rfl, rfl⟩ := hp_331
      refine xr_perm C 3 [0, 1, 2] [] [MW q_29 q_332 q_333 cy x_328.2.1 x_328.2.2.1 x_328.2.2.2.1 x_328.2.2.2.2.1 x_328.2.2.2.2.2, CW q_1 z_28 cy x_314.2.1 x_314.2.2.1, [(q_53, .inr (9, [.long x_314.2.2.2, q_319]))]] rfl (by decide +kernel) rfl ?_
      refine xr_st (st' := [.int x_328.1]) rfl ?_
      refine xr_iload (n := 738) (j := 1) C dd_L_law_24.2.2.2.2.2.2.2.2.2.2.2.1 rfl rfl ?_
      refine xr_icmp_eq (tgt := 743) (n := 741) C dd_L_law_24.2.2.2.2.2.2.2.2.2.2.2.2.1 rfl rfl (fun c_334 => ?_) (fun c_334 => ?_)
      · replace ho_58 := yf_t c_334 ho_58
        refine xr_iload (n := 745) (j := 1) C dd_L_law_24.2.2.2.2.2.2.2.2.2.2.2.2.2.2.2.1 rfl rfl ?_
        refine xr_if_ne (tgt := 761) (n := 748) C dd_L_law_25.1 rfl rfl (fun c_335 => ?_) (fun c_335 => ?_)
        · replace ho_58 := yf_f c_335 ho_58
          refine xr_goto (tgt := 1390) C dd_L_law_25.2.2.2.2.2.2.2.2.2.1 rfl ?_
          refine xr_iinc (j := 6) (v := s_58.1 + 4) (n := 1393) C [(4, .int (s_58.1 + 4)), (6, .int x_321.1), (5, .int x_314.1), (0, .ref b), (1, .ref q_1), (2, .ref q_29), (3, .ref q_53)] dd_L_law_49.2.2.2.2.2.2.2.2.2.2.2.2.2.1 rfl rfl (by decide) rfl rfl ?_
          refine xr_goto (tgt := 27) C dd_L_law_49.2.2.2.2.2.2.2.2.2.2.2.2.2.2.1 rfl ?_
          refine xr_lv (lv' := [(0, .ref b), (1, .ref q_1), (2, .ref q_29), (3, .ref q_53), (4, .int (s_58.1 + 4))]) [3, 4, 5, 6, 0] rfl ?_
          exact hk_58 (s_58.1 + 4, x_328.2.1, x_328.2.2.1, x_328.2.2.2.1, x_328.2.2.2.2.1, x_328.2.2.2.2.2, x_314.2.1, x_314.2.2.1, x_314.2.2.2, s_58.2.2.2.2.2.2.2.2.2.1 + 1 + 200, s_58.2.2.2.2.2.2.2.2.2.2 + 6 + 1800) (Option.some.inj ho_58).symm q_332 q_333 q_319
        · replace ho_58 := yf_t c_335 ho_58
          refine xr_aload_n (n := 749) (j := 5) C dd_L_law_25.2.1 rfl rfl ?_
          refine xr_getN (n := 752) C 2 rfl rfl 0 (by decide) in_X7 RL (List.mem_of_getElem? (i := 46) rfl) rfl (v := .long x_314.2.2.2) rfl dd_L_law_25.2.2.1 rfl ?_
          refine xr_iload (n := 754) (j := 0) C dd_L_law_25.2.2.2.1 rfl rfl ?_
          refine xr_i2l (n := 755) C dd_L_law_25.2.2.2.2.1 rfl ?_
          refine xr_lcmp (n := 756) C dd_L_law_25.2.2.2.2.2.1 rfl ?_
          refine xr_if_eq (tgt := 761) (n := 759) C dd_L_law_25.2.2.2.2.2.2.1 rfl rfl (fun c_336 => ?_) (fun c_336 => ?_)
          · replace ho_58 := yf_t c_336 ho_58
            refine xr_goto (tgt := 1390) C dd_L_law_25.2.2.2.2.2.2.2.2.2.1 rfl ?_
            refine xr_iinc (j := 6) (v := s_58.1 + 4) (n := 1393) C [(4, .int (s_58.1 + 4)), (6, .int x_321.1), (5, .int x_314.1), (0, .ref b), (1, .ref q_1), (2, .ref q_29), (3, .ref q_53)] dd_L_law_49.2.2.2.2.2.2.2.2.2.2.2.2.2.1 rfl rfl (by decide) rfl rfl ?_
            refine xr_goto (tgt := 27) C dd_L_law_49.2.2.2.2.2.2.2.2.2.2.2.2.2.2.1 rfl ?_
            refine xr_lv (lv' := [(0, .ref b), (1, .ref q_1), (2, .ref q_29), (3, .ref q_53), (4, .int (s_58.1 + 4))]) [3, 4, 5, 6, 0] rfl ?_
            exact hk_58 (s_58.1 + 4, x_328.2.1, x_328.2.2.1, x_328.2.2.2.1, x_328.2.2.2.2.1, x_328.2.2.2.2.2, x_314.2.1, x_314.2.2.1, x_314.2.2.2, s_58.2.2.2.2.2.2.2.2.2.1 + 1 + 200, s_58.2.2.2.2.2.2.2.2.2.2 + 6 + 1800) (Option.some.inj ho_58).symm q_332 q_333 q_319
          · replace ho_58 := yf_f c_336 ho_58
            refine xr_iconst (n := 760) (v := 0) C dd_L_law_25.2.2.2.2.2.2.2.1 rfl rfl ?_
            have e_337 := hx_58 _ (Option.some.inj ho_58).symm
            subst e_337
            replace hR := ybr_r hR
            obtain rfl := Option.some.inj hR
            exact ret 0 rfl g_322.1 g_322.2 dd_L_law_25.2.2.2.2.2.2.2.2.1
      · replace ho_58 := yf_f c_334 ho_58
        refine xr_iconst (n := 742) (v := 0) C dd_L_law_24.2.2.2.2.2.2.2.2.2.2.2.2.2.1 rfl rfl ?_
        have e_338 := hx_58 _ (Option.some.inj ho_58).symm
        subst e_338
        replace hR := ybr_r hR
        obtain rfl := Option.some.inj hR
        exact ret 0 rfl g_322.1 g_322.2 dd_L_law_24.2.2.2.2.2.2.2.2.2.2.2.2.2.2.1
    replace ho_58 := yf_f c_312 ho_58
    by_cases c_339 : ((xs s_58.1.toNatClampNeg) &&& 31) = 9
    · replace ho_58 := yf_t c_339 ho_58
      refine xr_tableIn (off := 721) (tgt := 764) C dL_law_43 (by rw [c_339]; decide) (by rw [c_339]; decide) (by rw [c_339]; decide) rfl ?_
      refine xr_aload_n (n := 765) (j := 1) C dd_L_law_25.2.2.2.2.2.2.2.2.2.2.1 rfl rfl ?_
      refine xr_aload_n (n := 766) (j := 0) C dd_L_law_25.2.2.2.2.2.2.2.2.2.2.2.1 rfl rfl ?_
      refine xr_iload (n := 768) (j := 4) C dd_L_law_25.2.2.2.2.2.2.2.2.2.2.2.2.1 rfl rfl ?_
      refine xr_iconst (n := 769) (v := 1) C dd_L_law_25.2.2.2.2.2.2.2.2.2.2.2.2.2.1 rfl rfl ?_
      refine xr_iadd (n := 770) C dd_L_law_25.2.2.2.2.2.2.2.2.2.2.2.2.2.2.1 rfl ?_
      obtain ⟨g_340, ho_58⟩ := yf_g ho_58
      refine xr_sld (n := 771) C hX hbl hbA g_340 dd_L_law_25.2.2.2.2.2.2.2.2.2.2.2.2.2.2.2.1 rfl ?_
      refine xr_aload_n (n := 772) (j := 0) C dd_L_law_26.1 rfl rfl ?_
      refine xr_iload (n := 774) (j := 4) C dd_L_law_26.2.1 rfl rfl ?_
      refine xr_iconst (n := 775) (v := 2) C dd_L_law_26.2.2.1 rfl rfl ?_
      refine xr_iadd (n := 776) C dd_L_law_26.2.2.2.1 rfl ?_
      obtain ⟨g_341, ho_58⟩ := yf_g ho_58
      refine xr_sld (n := 777) C hX hbl hbA g_341 dd_L_law_26.2.2.2.2.1 rfl ?_
      refine xr_aload_n (n := 778) (j := 0) C dd_L_law_26.2.2.2.2.2.1 rfl rfl ?_
      refine xr_iload (n := 780) (j := 4) C dd_L_law_26.2.2.2.2.2.2.1 rfl rfl ?_
      refine xr_iconst (n := 781) (v := 3) C dd_L_law_26.2.2.2.2.2.2.2.1 rfl rfl ?_
      refine xr_iadd (n := 782) C dd_L_law_26.2.2.2.2.2.2.2.2.1 rfl ?_
      obtain ⟨g_342, ho_58⟩ := yf_g ho_58
      refine xr_sld (n := 783) C hX hbl hbA g_342 dd_L_law_26.2.2.2.2.2.2.2.2.2.1 rfl ?_
      refine xr_aload_n (n := 784) (j := 3) C dd_L_law_26.2.2.2.2.2.2.2.2.2.2.1 rfl rfl ?_
      obtain ⟨x_343, hx_343, ho_58⟩ := yf_b ho_58
      obtain ⟨g_344, ho_58⟩ := yf_g ho_58
      refine xr_callSW (n := 787) (As := [.ref q_1, .int (xs (s_58.1 + 1).toNatClampNeg), .int (xs (s_58.1 + 2).toNatClampNeg), .int (xs (s_58.1 + 3).toNatClampNeg), .ref q_53]) (rest := []) C (kgL_bend l D cy hl0 (x := q_1) (a := z_28) (o := q_53) (os := a2_58) (n := s_58.2.2.2.2.2.2.1) (t := s_58.2.2.2.2.2.2.2.1) (on := s_58.2.2.2.2.2.2.2.2.1) (i1 := xs (s_58.1 + 1).toNatClampNeg) (i2 := xs (s_58.1 + 2).toNatClampNeg) (i3 := xs (s_58.1 + 3).toNatClampNeg) hx_343) mL_bend u_829 u_830 3 [1, 2] [0] rfl (by decide +kernel) rfl rfl rfl rfl (Nat.le_of_ble_eq_true rfl) (Nat.le_of_ble_eq_true rfl) (Nat.le_of_ble_eq_true rfl) g_344.1 g_344.2 dd_L_law_26.2.2.2.2.2.2.2.2.2.2.2.1 rfl (fun v_345 u_346 hp_347 => ?_)
      obtain ⟨q_348, rfl, rfl⟩ := hp_347
      refine xr_perm C 3 [2, 0, 1] [] [MW q_29 a0_58 a1_58 cy s_58.2.1 s_58.2.2.1 s_58.2.2.2.1 s_58.2.2.2.2.1 s_58.2.2.2.2.2.1, CW q_1 z_28 cy x_343.2.1 x_343.2.2.1, [(q_53, .inr (9, [.long x_343.2.2.2, q_348]))]] rfl (by decide +kernel) rfl ?_
      refine xr_st (st' := [.int x_343.1]) rfl ?_
      refine xr_istore (n := 789) C [(5, .int x_343.1), (0, .ref b), (1, .ref q_1), (2, .ref q_29), (3, .ref q_53), (4, .int s_58.1)] dd_L_law_26.2.2.2.2.2.2.2.2.2.2.2.2.1 (by decide) rfl rfl ?_
      refine xr_aload_n (n := 790) (j := 3) C dd_L_law_26.2.2.2.2.2.2.2.2.2.2.2.2.2.1 rfl rfl ?_
      refine xr_aload_n (n := 791) (j := 1) C dd_L_law_26.2.2.2.2.2.2.2.2.2.2.2.2.2.2.1 rfl rfl ?_
      refine xr_iload (n := 793) (j := 5) C dd_L_law_26.2.2.2.2.2.2.2.2.2.2.2.2.2.2.2.1 rfl rfl ?_
      refine xr_iconst (n := 794) (v := 1) C dd_L_law_27.1 rfl rfl ?_
      refine xr_iadd (n := 795) C dd_L_law_27.2.1 rfl ?_
      obtain ⟨g_349, ho_58⟩ := yf_g ho_58
      refine xr_sld (n := 796) C hX hbl hbA g_349 dd_L_law_27.2.2.1 rfl ?_
      refine xr_aload_n (n := 797) (j := 1) C dd_L_law_27.2.2.2.1 rfl rfl ?_
      refine xr_iload (n := 799) (j := 5) C dd_L_law_27.2.2.2.2.1 rfl rfl ?_
      refine xr_iconst (n := 800) (v := 2) C dd_L_law_27.2.2.2.2.2.1 rfl rfl ?_
      refine xr_iadd (n := 801) C dd_L_law_27.2.2.2.2.2.2.1 rfl ?_
      obtain ⟨g_350, ho_58⟩ := yf_g ho_58
      refine xr_sld (n := 802) C hX hbl hbA g_350 dd_L_law_27.2.2.2.2.2.2.2.1 rfl ?_
      refine xr_aload_n (n := 803) (j := 1) C dd_L_law_27.2.2.2.2.2.2.2.2.1 rfl rfl ?_
      refine xr_iload (n := 805) (j := 5) C dd_L_law_27.2.2.2.2.2.2.2.2.2.1 rfl rfl ?_
      refine xr_iconst (n := 806) (v := 3) C dd_L_law_27.2.2.2.2.2.2.2.2.2.2.1 rfl rfl ?_
      refine xr_iadd (n := 807) C dd_L_law_27.2.2.2.2.2.2.2.2.2.2.2.1 rfl ?_
      obtain ⟨g_351, ho_58⟩ := yf_g ho_58
      refine xr_sld (n := 808) C hX hbl hbA g_351 dd_L_law_27.2.2.2.2.2.2.2.2.2.2.2.2.1 rfl ?_
      obtain ⟨x_352, hx_352, ho_58⟩ := yf_b ho_58
      refine xr_callVP (n := 811) (As := [.int (xs (s_58.1 + 1).toNatClampNeg), .int (xs (s_58.1 + 2).toNatClampNeg), .int (xs (s_58.1 + 3).toNatClampNeg)]) (rest := []) C (kgX9w_bend l D cy (g := q_29) (a := a0_58) (ad := a1_58) (sh := s_58.2.1) (n := s_58.2.2.1) (L := s_58.2.2.2.1) (k := s_58.2.2.2.2.1) (G := s_58.2.2.2.2.2.1) (i1 := xs (s_58.1 + 1).toNatClampNeg) (i2 := xs (s_58.1 + 2).toNatClampNeg) (i3 := xs (s_58.1 + 3).toNatClampNeg) hx_352) mX9_bend u_1484 u_1485 u_1486 0 rfl (MW_head _ _ _ _ _ _ _ _ _) rfl 3 [0] [1, 2] rfl (by decide +kernel) rfl rfl rfl rfl (Nat.le_of_ble_eq_true rfl) (Nat.le_of_ble_eq_true rfl) (Nat.le_of_ble_eq_true rfl) g_344.1 g_344.2 dd_L_law_27.2.2.2.2.2.2.2.2.2.2.2.2.2.1 rfl (fun v_353 u_354 hp_355 => ?_)
      obtain ⟨q_356, q_357, rfl, rfl⟩ := hp_355
      refine xr_perm C 3 [0, 1, 2] [] [MW q_29 q_356 q_357 cy x_352.2.1 x_352.2.2.1 x_352.2.2.2.1 x_352.2.2.2.2.1 x_352.2.2.2.2.2, CW q_1 z_28 cy x_343.2.1 x_343.2.2.1, [(q_53, .inr (9, [.long x_343.2.2.2, q_348]))]] rfl (by decide +kernel) rfl ?_
      refine xr_st (st' := [.int x_352.1]) rfl ?_
      refine xr_istore (n := 813) C [(6, .int x_352.1), (5, .int x_343.1), (0, .ref b), (1, .ref q_1), (2, .ref q_29), (3, .ref q_53), (4, .int s_58.1)] dd_L_law_27.2.2.2.2.2.2.2.2.2.2.2.2.2.2.1 (by decide) rfl rfl ?_
      refine xr_aload_n (n := 814) (j := 4) C dd_L_law_27.2.2.2.2.2.2.2.2.2.2.2.2.2.2.2.1 rfl rfl ?_
      obtain ⟨x_358, hx_358, ho_58⟩ := yf_b ho_58
      refine xr_callVP (n := 817) (As := []) (rest := []) C (kgX9w_thrown l D cy (g := q_29) (a := q_356) (ad := q_357) (sh := x_352.2.1) (n := x_352.2.2.1) (L := x_352.2.2.2.1) (k := x_352.2.2.2.2.1) (G := x_352.2.2.2.2.2) hx_358) mX9_thrown u_1290 u_1291 u_1292 0 rfl (MW_head _ _ _ _ _ _ _ _ _) rfl 3 [0] [1, 2] rfl (by decide +kernel) rfl rfl rfl rfl (Nat.le_of_ble_eq_true rfl) (Nat.le_of_ble_eq_true rfl) (Nat.le_of_ble_eq_true rfl) g_344.1 g_344.2 dd_L_law_28.1 rfl (fun v_359 u_360 hp_361 => ?_)
      obtain ⟨q_362, q_363, rfl, rfl⟩ := hp_361
      refine xr_perm C 3 [0, 1, 2] [] [MW q_29 q_362 q_363 cy x_358.2.1 x_358.2.2.1 x_358.2.2.2.1 x_358.2.2.2.2.1 x_358.2.2.2.2.2, CW q_1 z_28 cy x_343.2.1 x_343.2.2.1, [(q_53, .inr (9, [.long x_343.2.2.2, q_348]))]] rfl (by decide +kernel) rfl ?_
      refine xr_st (st' := [.int x_358.1]) rfl ?_
      refine xr_iload (n := 819) (j := 1) C dd_L_law_28.2.1 rfl rfl ?_
      refine xr_icmp_eq (tgt := 824) (n := 822) C dd_L_law_28.2.2.1 rfl rfl (fun c_364 => ?_) (fun c_364 => ?_)
      · replace ho_58 := yf_t c_364 ho_58
        refine xr_iload (n := 826) (j := 1) C dd_L_law_28.2.2.2.2.2.1 rfl rfl ?_
        refine xr_if_ne (tgt := 842) (n := 829) C dd_L_law_28.2.2.2.2.2.2.1 rfl rfl (fun c_365 => ?_) (fun c_365 => ?_)
        · replace ho_58 := yf_f c_365 ho_58
          refine xr_goto (tgt := 1390) C dd_L_law_28.2.2.2.2.2.2.2.2.2.2.2.2.2.2.2.1 rfl ?_
          refine xr_iinc (j := 6) (v := s_58.1 + 4) (n := 1393) C [(4, .int (s_58.1 + 4)), (6, .int x_352.1), (5, .int x_343.1), (0, .ref b), (1, .ref q_1), (2, .ref q_29), (3, .ref q_53)] dd_L_law_49.2.2.2.2.2.2.2.2.2.2.2.2.2.1 rfl rfl (by decide) rfl rfl ?_
          refine xr_goto (tgt := 27) C dd_L_law_49.2.2.2.2.2.2.2.2.2.2.2.2.2.2.1 rfl ?_
          refine xr_lv (lv' := [(0, .ref b), (1, .ref q_1), (2, .ref q_29), (3, .ref q_53), (4, .int (s_58.1 + 4))]) [3, 4, 5, 6, 0] rfl ?_
          exact hk_58 (s_58.1 + 4, x_358.2.1, x_358.2.2.1, x_358.2.2.2.1, x_358.2.2.2.2.1, x_358.2.2.2.2.2, x_343.2.1, x_343.2.2.1, x_343.2.2.2, s_58.2.2.2.2.2.2.2.2.2.1 + 1, s_58.2.2.2.2.2.2.2.2.2.2 + 6) (Option.some.inj ho_58).symm q_362 q_363 q_348
        · replace ho_58 := yf_t c_365 ho_58
          refine xr_aload_n (n := 830) (j := 5) C dd_L_law_28.2.2.2.2.2.2.2.1 rfl rfl ?_
          refine xr_getN (n := 833) C 2 rfl rfl 0 (by decide) in_X7 RL (List.mem_of_getElem? (i := 46) rfl) rfl (v := .long x_343.2.2.2) rfl dd_L_law_28.2.2.2.2.2.2.2.2.1 rfl ?_
          refine xr_iload (n := 835) (j := 0) C dd_L_law_28.2.2.2.2.2.2.2.2.2.1 rfl rfl ?_
          refine xr_i2l (n := 836) C dd_L_law_28.2.2.2.2.2.2.2.2.2.2.1 rfl ?_
          refine xr_lcmp (n := 837) C dd_L_law_28.2.2.2.2.2.2.2.2.2.2.2.1 rfl ?_
          refine xr_if_eq (tgt := 842) (n := 840) C dd_L_law_28.2.2.2.2.2.2.2.2.2.2.2.2.1 rfl rfl (fun c_366 => ?_) (fun c_366 => ?_)
          · replace ho_58 := yf_t c_366 ho_58
            refine xr_goto (tgt := 1390) C dd_L_law_28.2.2.2.2.2.2.2.2.2.2.2.2.2.2.2.1 rfl ?_
            refine xr_iinc (j := 6) (v := s_58.1 + 4) (n := 1393) C [(4, .int (s_58.1 + 4)), (6, .int x_352.1), (5, .int x_343.1), (0, .ref b), (1, .ref q_1), (2, .ref q_29), (3, .ref q_53)] dd_L_law_49.2.2.2.2.2.2.2.2.2.2.2.2.2.1 rfl rfl (by decide) rfl rfl ?_
            refine xr_goto (tgt := 27) C dd_L_law_49.2.2.2.2.2.2.2.2.2.2.2.2.2.2.1 rfl ?_
            refine xr_lv (lv' := [(0, .ref b), (1, .ref q_1), (2, .ref q_29), (3, .ref q_53), (4, .int (s_58.1 + 4))]) [3, 4, 5, 6, 0] rfl ?_
            exact hk_58 (s_58.1 + 4, x_358.2.1, x_358.2.2.1, x_358.2.2.2.1, x_358.2.2.2.2.1, x_358.2.2.2.2.2, x_343.2.1, x_343.2.2.1, x_343.2.2.2, s_58.2.2.2.2.2.2.2.2.2.1 + 1, s_58.2.2.2.2.2.2.2.2.2.2 + 6) (Option.some.inj ho_58).symm q_362 q_363 q_348
          · replace ho_58 := yf_f c_366 ho_58
            refine xr_iconst (n := 841) (v := 0) C dd_L_law_28.2.2.2.2.2.2.2.2.2.2.2.2.2.1 rfl rfl ?_
            have e_367 := hx_58 _ (Option.some.inj ho_58).symm
            subst e_367
            replace hR := ybr_r hR
            obtain rfl := Option.some.inj hR
            exact ret 0 rfl g_344.1 g_344.2 dd_L_law_28.2.2.2.2.2.2.2.2.2.2.2.2.2.2.1
      · replace ho_58 := yf_f c_364 ho_58
        refine xr_iconst (n := 823) (v := 0) C dd_L_law_28.2.2.2.1 rfl rfl ?_
        have e_368 := hx_58 _ (Option.some.inj ho_58).symm
        subst e_368
        replace hR := ybr_r hR
        obtain rfl := Option.some.inj hR
        exact ret 0 rfl g_344.1 g_344.2 dd_L_law_28.2.2.2.2.1
    replace ho_58 := yf_f c_339 ho_58
    by_cases c_369 : ((xs s_58.1.toNatClampNeg) &&& 31) = 10
    · replace ho_58 := yf_t c_369 ho_58
      refine xr_tableIn (off := 802) (tgt := 845) C dL_law_43 (by rw [c_369]; decide) (by rw [c_369]; decide) (by rw [c_369]; decide) rfl ?_
      refine xr_aload_n (n := 846) (j := 1) C dd_L_law_29.1 rfl rfl ?_
      refine xr_aload_n (n := 847) (j := 3) C dd_L_law_29.2.1 rfl rfl ?_
      obtain ⟨x_370, hx_370, ho_58⟩ := yf_b ho_58
      obtain ⟨g_371, ho_58⟩ := yf_g ho_58
      refine xr_callSW (n := 850) (As := [.ref q_1, .ref q_53]) (rest := []) C (kgL_check l D cy hl0 (x := q_1) (a := z_28) (o := q_53) (os := a2_58) (n := s_58.2.2.2.2.2.2.1) (t := s_58.2.2.2.2.2.2.2.1) (on := s_58.2.2.2.2.2.2.2.2.1) hx_370) mL_check u_842 u_843 3 [1, 2] [0] rfl (by decide +kernel) rfl rfl rfl rfl (Nat.le_of_ble_eq_true rfl) (Nat.le_of_ble_eq_true rfl) (Nat.le_of_ble_eq_true rfl) g_371.1 g_371.2 dd_L_law_29.2.2.1 rfl (fun v_372 u_373 hp_374 => ?_)
      obtain ⟨q_375, rfl, rfl⟩ := hp_374
      refine xr_perm C 3 [2, 0, 1] [] [MW q_29 a0_58 a1_58 cy s_58.2.1 s_58.2.2.1 s_58.2.2.2.1 s_58.2.2.2.2.1 s_58.2.2.2.2.2.1, CW q_1 z_28 cy x_370.2.1 x_370.2.2.1, [(q_53, .inr (9, [.long x_370.2.2.2, q_375]))]] rfl (by decide +kernel) rfl ?_
      refine xr_st (st' := [.int x_370.1]) rfl ?_
      refine xr_istore (n := 852) C [(5, .int x_370.1), (0, .ref b), (1, .ref q_1), (2, .ref q_29), (3, .ref q_53), (4, .int s_58.1)] dd_L_law_29.2.2.2.1 (by decide) rfl rfl ?_
      refine xr_aload_n (n := 853) (j := 3) C dd_L_law_29.2.2.2.2.1 rfl rfl ?_
      obtain ⟨x_376, hx_376, ho_58⟩ := yf_b ho_58
      refine xr_callVP (n := 856) (As := []) (rest := []) C (kgX9w_check l D cy (g := q_29) (a := a0_58) (ad := a1_58) (sh := s_58.2.1) (n := s_58.2.2.1) (L := s_58.2.2.2.1) (k := s_58.2.2.2.2.1) (G := s_58.2.2.2.2.2.1) hx_376) mX9_check u_1492 u_1493 u_1494 0 rfl (MW_head _ _ _ _ _ _ _ _ _) rfl 3 [0] [1, 2] rfl (by decide +kernel) rfl rfl rfl rfl (Nat.le_of_ble_eq_true rfl) (Nat.le_of_ble_eq_true rfl) (Nat.le_of_ble_eq_true rfl) g_371.1 g_371.2 dd_L_law_29.2.2.2.2.2.1 rfl (fun v_377 u_378 hp_379 => ?_)
      obtain ⟨q_380, q_381, rfl, rfl⟩ := hp_379
      refine xr_perm C 3 [0, 1, 2] [] [MW q_29 q_380 q_381 cy x_376.2.1 x_376.2.2.1 x_376.2.2.2.1 x_376.2.2.2.2.1 x_376.2.2.2.2.2, CW q_1 z_28 cy x_370.2.1 x_370.2.2.1, [(q_53, .inr (9, [.long x_370.2.2.2, q_375]))]] rfl (by decide +kernel) rfl ?_
      refine xr_st (st' := [.int x_376.1]) rfl ?_
      refine xr_istore (n := 858) C [(6, .int x_376.1), (5, .int x_370.1), (0, .ref b), (1, .ref q_1), (2, .ref q_29), (3, .ref q_53), (4, .int s_58.1)] dd_L_law_29.2.2.2.2.2.2.1 (by decide) rfl rfl ?_
      refine xr_aload_n (n := 859) (j := 4) C dd_L_law_29.2.2.2.2.2.2.2.1 rfl rfl ?_
      obtain ⟨x_382, hx_382, ho_58⟩ := yf_b ho_58
      refine xr_callVP (n := 862) (As := []) (rest := []) C (kgX9w_thrown l D cy (g := q_29) (a := q_380) (ad := q_381) (sh := x_376.2.1) (n := x_376.2.2.1) (L := x_376.2.2.2.1) (k := x_376.2.2.2.2.1) (G := x_376.2.2.2.2.2) hx_382) mX9_thrown u_1290 u_1291 u_1292 0 rfl (MW_head _ _ _ _ _ _ _ _ _) rfl 3 [0] [1, 2] rfl (by decide +kernel) rfl rfl rfl rfl (Nat.le_of_ble_eq_true rfl) (Nat.le_of_ble_eq_true rfl) (Nat.le_of_ble_eq_true rfl) g_371.1 g_371.2 dd_L_law_29.2.2.2.2.2.2.2.2.1 rfl (fun v_383 u_384 hp_385 => ?_)
      obtain ⟨q_386, q_387, rfl, rfl⟩ := hp_385
      refine xr_perm C 3 [0, 1, 2] [] [MW q_29 q_386 q_387 cy x_382.2.1 x_382.2.2.1 x_382.2.2.2.1 x_382.2.2.2.2.1 x_382.2.2.2.2.2, CW q_1 z_28 cy x_370.2.1 x_370.2.2.1, [(q_53, .inr (9, [.long x_370.2.2.2, q_375]))]] rfl (by decide +kernel) rfl ?_
      refine xr_st (st' := [.int x_382.1]) rfl ?_
      refine xr_iload (n := 864) (j := 1) C dd_L_law_29.2.2.2.2.2.2.2.2.2.1 rfl rfl ?_
      refine xr_icmp_eq (tgt := 869) (n := 867) C dd_L_law_29.2.2.2.2.2.2.2.2.2.2.1 rfl rfl (fun c_388 => ?_) (fun c_388 => ?_)
      · replace ho_58 := yf_t c_388 ho_58
        refine xr_iload (n := 871) (j := 1) C dd_L_law_29.2.2.2.2.2.2.2.2.2.2.2.2.2.1 rfl rfl ?_
        refine xr_if_ne (tgt := 887) (n := 874) C dd_L_law_29.2.2.2.2.2.2.2.2.2.2.2.2.2.2.1 rfl rfl (fun c_389 => ?_) (fun c_389 => ?_)
        · replace ho_58 := yf_f c_389 ho_58
          refine xr_goto (tgt := 1390) C dd_L_law_30.2.2.2.2.2.2.2.1 rfl ?_
          refine xr_iinc (j := 6) (v := s_58.1 + 4) (n := 1393) C [(4, .int (s_58.1 + 4)), (6, .int x_376.1), (5, .int x_370.1), (0, .ref b), (1, .ref q_1), (2, .ref q_29), (3, .ref q_53)] dd_L_law_49.2.2.2.2.2.2.2.2.2.2.2.2.2.1 rfl rfl (by decide) rfl rfl ?_
          refine xr_goto (tgt := 27) C dd_L_law_49.2.2.2.2.2.2.2.2.2.2.2.2.2.2.1 rfl ?_
          refine xr_lv (lv' := [(0, .ref b), (1, .ref q_1), (2, .ref q_29), (3, .ref q_53), (4, .int (s_58.1 + 4))]) [3, 4, 5, 6, 0] rfl ?_
          exact hk_58 (s_58.1 + 4, x_382.2.1, x_382.2.2.1, x_382.2.2.2.1, x_382.2.2.2.2.1, x_382.2.2.2.2.2, x_370.2.1, x_370.2.2.1, x_370.2.2.2, s_58.2.2.2.2.2.2.2.2.2.1 + 1, s_58.2.2.2.2.2.2.2.2.2.2 + 6) (Option.some.inj ho_58).symm q_386 q_387 q_375
        · replace ho_58 := yf_t c_389 ho_58
          refine xr_aload_n (n := 875) (j := 5) C dd_L_law_29.2.2.2.2.2.2.2.2.2.2.2.2.2.2.2.1 rfl rfl ?_
          refine xr_getN (n := 878) C 2 rfl rfl 0 (by decide) in_X7 RL (List.mem_of_getElem? (i := 46) rfl) rfl (v := .long x_370.2.2.2) rfl dd_L_law_30.1 rfl ?_
          refine xr_iload (n := 880) (j := 0) C dd_L_law_30.2.1 rfl rfl ?_
          refine xr_i2l (n := 881) C dd_L_law_30.2.2.1 rfl ?_
          refine xr_lcmp (n := 882) C dd_L_law_30.2.2.2.1 rfl ?_
          refine xr_if_eq (tgt := 887) (n := 885) C dd_L_law_30.2.2.2.2.1 rfl rfl (fun c_390 => ?_) (fun c_390 => ?_)
          · replace ho_58 := yf_t c_390 ho_58
            refine xr_goto (tgt := 1390) C dd_L_law_30.2.2.2.2.2.2.2.1 rfl ?_
            refine xr_iinc (j := 6) (v := s_58.1 + 4) (n := 1393) C [(4, .int (s_58.1 + 4)), (6, .int x_376.1), (5, .int x_370.1), (0, .ref b), (1, .ref q_1), (2, .ref q_29), (3, .ref q_53)] dd_L_law_49.2.2.2.2.2.2.2.2.2.2.2.2.2.1 rfl rfl (by decide) rfl rfl ?_
            refine xr_goto (tgt := 27) C dd_L_law_49.2.2.2.2.2.2.2.2.2.2.2.2.2.2.1 rfl ?_
            refine xr_lv (lv' := [(0, .ref b), (1, .ref q_1), (2, .ref q_29), (3, .ref q_53), (4, .int (s_58.1 + 4))]) [3, 4, 5, 6, 0] rfl ?_
            exact hk_58 (s_58.1 + 4, x_382.2.1, x_382.2.2.1, x_382.2.2.2.1, x_382.2.2.2.2.1, x_382.2.2.2.2.2, x_370.2.1, x_370.2.2.1, x_370.2.2.2, s_58.2.2.2.2.2.2.2.2.2.1 + 1, s_58.2.2.2.2.2.2.2.2.2.2 + 6) (Option.some.inj ho_58).symm q_386 q_387 q_375
          · replace ho_58 := yf_f c_390 ho_58
            refine xr_iconst (n := 886) (v := 0) C dd_L_law_30.2.2.2.2.2.1 rfl rfl ?_
            have e_391 := hx_58 _ (Option.some.inj ho_58).symm
            subst e_391
            replace hR := ybr_r hR
            obtain rfl := Option.some.inj hR
            exact ret 0 rfl g_371.1 g_371.2 dd_L_law_30.2.2.2.2.2.2.1
      · replace ho_58 := yf_f c_388 ho_58
        refine xr_iconst (n := 868) (v := 0) C dd_L_law_29.2.2.2.2.2.2.2.2.2.2.2.1 rfl rfl ?_
        have e_392 := hx_58 _ (Option.some.inj ho_58).symm
        subst e_392
        replace hR := ybr_r hR
        obtain rfl := Option.some.inj hR
        exact ret 0 rfl g_371.1 g_371.2 dd_L_law_29.2.2.2.2.2.2.2.2.2.2.2.2.1
    replace ho_58 := yf_f c_369 ho_58
    by_cases c_393 : ((xs s_58.1.toNatClampNeg) &&& 31) = 11
    · replace ho_58 := yf_t c_393 ho_58
      refine xr_tableIn (off := 847) (tgt := 890) C dL_law_43 (by rw [c_393]; decide) (by rw [c_393]; decide) (by rw [c_393]; decide) rfl ?_
      refine xr_aload_n (n := 891) (j := 1) C dd_L_law_30.2.2.2.2.2.2.2.2.1 rfl rfl ?_
      refine xr_aload_n (n := 892) (j := 0) C dd_L_law_30.2.2.2.2.2.2.2.2.2.1 rfl rfl ?_
      refine xr_iload (n := 894) (j := 4) C dd_L_law_30.2.2.2.2.2.2.2.2.2.2.1 rfl rfl ?_
      refine xr_iconst (n := 895) (v := 1) C dd_L_law_30.2.2.2.2.2.2.2.2.2.2.2.1 rfl rfl ?_
      refine xr_iadd (n := 896) C dd_L_law_30.2.2.2.2.2.2.2.2.2.2.2.2.1 rfl ?_
      obtain ⟨g_394, ho_58⟩ := yf_g ho_58
      refine xr_sld (n := 897) C hX hbl hbA g_394 dd_L_law_30.2.2.2.2.2.2.2.2.2.2.2.2.2.1 rfl ?_
      refine xr_aload_n (n := 898) (j := 3) C dd_L_law_30.2.2.2.2.2.2.2.2.2.2.2.2.2.2.1 rfl rfl ?_
      obtain ⟨x_395, hx_395, ho_58⟩ := yf_b ho_58
      obtain ⟨g_396, ho_58⟩ := yf_g ho_58
      refine xr_callSW (n := 901) (As := [.ref q_1, .int (xs (s_58.1 + 1).toNatClampNeg), .ref q_53]) (rest := []) C (kgL_mesh l D cy hl0 (x := q_1) (a := z_28) (o := q_53) (os := a2_58) (n := s_58.2.2.2.2.2.2.1) (t := s_58.2.2.2.2.2.2.2.1) (on := s_58.2.2.2.2.2.2.2.2.1) (i1 := xs (s_58.1 + 1).toNatClampNeg) hx_395) mL_mesh u_868 u_869 3 [1, 2] [0] rfl (by decide +kernel) rfl rfl rfl rfl (Nat.le_of_ble_eq_true rfl) (Nat.le_of_ble_eq_true rfl) (Nat.le_of_ble_eq_true rfl) g_396.1 g_396.2 dd_L_law_30.2.2.2.2.2.2.2.2.2.2.2.2.2.2.2.1 rfl (fun v_397 u_398 hp_399 => ?_)
      obtain ⟨q_400, rfl, rfl⟩ := hp_399
      refine xr_perm C 3 [2, 0, 1] [] [MW q_29 a0_58 a1_58 cy s_58.2.1 s_58.2.2.1 s_58.2.2.2.1 s_58.2.2.2.2.1 s_58.2.2.2.2.2.1, CW q_1 z_28 cy x_395.2.1 x_395.2.2.1, [(q_53, .inr (9, [.long x_395.2.2.2, q_400]))]] rfl (by decide +kernel) rfl ?_
      refine xr_st (st' := [.int x_395.1]) rfl ?_
      refine xr_istore (n := 903) C [(5, .int x_395.1), (0, .ref b), (1, .ref q_1), (2, .ref q_29), (3, .ref q_53), (4, .int s_58.1)] dd_L_law_31.1 (by decide) rfl rfl ?_
      refine xr_aload_n (n := 904) (j := 3) C dd_L_law_31.2.1 rfl rfl ?_
      refine xr_aload_n (n := 905) (j := 1) C dd_L_law_31.2.2.1 rfl rfl ?_
      refine xr_iload (n := 907) (j := 5) C dd_L_law_31.2.2.2.1 rfl rfl ?_
      refine xr_iconst (n := 908) (v := 1) C dd_L_law_31.2.2.2.2.1 rfl rfl ?_
      refine xr_iadd (n := 909) C dd_L_law_31.2.2.2.2.2.1 rfl ?_
      obtain ⟨g_401, ho_58⟩ := yf_g ho_58
      refine xr_sld (n := 910) C hX hbl hbA g_401 dd_L_law_31.2.2.2.2.2.2.1 rfl ?_
      obtain ⟨x_402, hx_402, ho_58⟩ := yf_b ho_58
      refine xr_callVP (n := 913) (As := [.int (xs (s_58.1 + 1).toNatClampNeg)]) (rest := []) C (kgX9w_mesh l D cy (g := q_29) (a := a0_58) (ad := a1_58) (sh := s_58.2.1) (n := s_58.2.2.1) (L := s_58.2.2.2.1) (k := s_58.2.2.2.2.1) (G := s_58.2.2.2.2.2.1) (i1 := xs (s_58.1 + 1).toNatClampNeg) hx_402) mX9_mesh u_1508 u_1509 u_1510 0 rfl (MW_head _ _ _ _ _ _ _ _ _) rfl 3 [0] [1, 2] rfl (by decide +kernel) rfl rfl rfl rfl (Nat.le_of_ble_eq_true rfl) (Nat.le_of_ble_eq_true rfl) (Nat.le_of_ble_eq_true rfl) g_396.1 g_396.2 dd_L_law_31.2.2.2.2.2.2.2.1 rfl (fun v_403 u_404 hp_405 => ?_)
      obtain ⟨q_406, q_407, rfl, rfl⟩ := hp_405
      refine xr_perm C 3 [0, 1, 2] [] [MW q_29 q_406 q_407 cy x_402.2.1 x_402.2.2.1 x_402.2.2.2.1 x_402.2.2.2.2.1 x_402.2.2.2.2.2, CW q_1 z_28 cy x_395.2.1 x_395.2.2.1, [(q_53, .inr (9, [.long x_395.2.2.2, q_400]))]] rfl (by decide +kernel) rfl ?_
      refine xr_st (st' := [.int x_402.1]) rfl ?_
      refine xr_istore (n := 915) C [(6, .int x_402.1), (5, .int x_395.1), (0, .ref b), (1, .ref q_1), (2, .ref q_29), (3, .ref q_53), (4, .int s_58.1)] dd_L_law_31.2.2.2.2.2.2.2.2.1 (by decide) rfl rfl ?_
      refine xr_aload_n (n := 916) (j := 4) C dd_L_law_31.2.2.2.2.2.2.2.2.2.1 rfl rfl ?_
      obtain ⟨x_408, hx_408, ho_58⟩ := yf_b ho_58
      refine xr_callVP (n := 919) (As := []) (rest := []) C (kgX9w_thrown l D cy (g := q_29) (a := q_406) (ad := q_407) (sh := x_402.2.1) (n := x_402.2.2.1) (L := x_402.2.2.2.1) (k := x_402.2.2.2.2.1) (G := x_402.2.2.2.2.2) hx_408) mX9_thrown u_1290 u_1291 u_1292 0 rfl (MW_head _ _ _ _ _ _ _ _ _) rfl 3 [0] [1, 2] rfl (by decide +kernel) rfl rfl rfl rfl (Nat.le_of_ble_eq_true rfl) (Nat.le_of_ble_eq_true rfl) (Nat.le_of_ble_eq_true rfl) g_396.1 g_396.2 dd_L_law_31.2.2.2.2.2.2.2.2.2.2.1 rfl (fun v_409 u_410 hp_411 => ?_)
      obtain ⟨q_412, q_413, rfl, rfl⟩ := hp_411
      refine xr_perm C 3 [0, 1, 2] [] [MW q_29 q_412 q_413 cy x_408.2.1 x_408.2.2.1 x_408.2.2.2.1 x_408.2.2.2.2.1 x_408.2.2.2.2.2, CW q_1 z_28 cy x_395.2.1 x_395.2.2.1, [(q_53, .inr (9, [.long x_395.2.2.2, q_400]))]] rfl (by decide +kernel) rfl ?_
      refine xr_st (st' := [.int x_408.1]) rfl ?_
      refine xr_iload (n := 921) (j := 1) C dd_L_law_31.2.2.2.2.2.2.2.2.2.2.2.1 rfl rfl ?_
      refine xr_icmp_eq (tgt := 926) (n := 924) C dd_L_law_31.2.2.2.2.2.2.2.2.2.2.2.2.1 rfl rfl (fun c_414 => ?_) (fun c_414 => ?_)
      · replace ho_58 := yf_t c_414 ho_58
        refine xr_iload (n := 928) (j := 1) C dd_L_law_31.2.2.2.2.2.2.2.2.2.2.2.2.2.2.2.1 rfl rfl ?_
        refine xr_if_ne (tgt := 944) (n := 931) C dd_L_law_32.1 rfl rfl (fun c_415 => ?_) (fun c_415 => ?_)
        · replace ho_58 := yf_f c_415 ho_58
          refine xr_goto (tgt := 1390) C dd_L_law_32.2.2.2.2.2.2.2.2.2.1 rfl ?_
          refine xr_iinc (j := 6) (v := s_58.1 + 4) (n := 1393) C [(4, .int (s_58.1 + 4)), (6, .int x_402.1), (5, .int x_395.1), (0, .ref b), (1, .ref q_1), (2, .ref q_29), (3, .ref q_53)] dd_L_law_49.2.2.2.2.2.2.2.2.2.2.2.2.2.1 rfl rfl (by decide) rfl rfl ?_
          refine xr_goto (tgt := 27) C dd_L_law_49.2.2.2.2.2.2.2.2.2.2.2.2.2.2.1 rfl ?_
          refine xr_lv (lv' := [(0, .ref b), (1, .ref q_1), (2, .ref q_29), (3, .ref q_53), (4, .int (s_58.1 + 4))]) [3, 4, 5, 6, 0] rfl ?_
          exact hk_58 (s_58.1 + 4, x_408.2.1, x_408.2.2.1, x_408.2.2.2.1, x_408.2.2.2.2.1, x_408.2.2.2.2.2, x_395.2.1, x_395.2.2.1, x_395.2.2.2, s_58.2.2.2.2.2.2.2.2.2.1 + 1, s_58.2.2.2.2.2.2.2.2.2.2 + 6) (Option.some.inj ho_58).symm q_412 q_413 q_400
        · replace ho_58 := yf_t c_415 ho_58
          refine xr_aload_n (n := 932) (j := 5) C dd_L_law_32.2.1 rfl rfl ?_
          refine xr_getN (n := 935) C 2 rfl rfl 0 (by decide) in_X7 RL (List.mem_of_getElem? (i := 46) rfl) rfl (v := .long x_395.2.2.2) rfl dd_L_law_32.2.2.1 rfl ?_
          refine xr_iload (n := 937) (j := 0) C dd_L_law_32.2.2.2.1 rfl rfl ?_
          refine xr_i2l (n := 938) C dd_L_law_32.2.2.2.2.1 rfl ?_
          refine xr_lcmp (n := 939) C dd_L_law_32.2.2.2.2.2.1 rfl ?_
          refine xr_if_eq (tgt := 944) (n := 942) C dd_L_law_32.2.2.2.2.2.2.1 rfl rfl (fun c_416 => ?_) (fun c_416 => ?_)
          · replace ho_58 := yf_t c_416 ho_58
            refine xr_goto (tgt := 1390) C dd_L_law_32.2.2.2.2.2.2.2.2.2.1 rfl ?_
            refine xr_iinc (j := 6) (v := s_58.1 + 4) (n := 1393) C [(4, .int (s_58.1 + 4)), (6, .int x_402.1), (5, .int x_395.1), (0, .ref b), (1, .ref q_1), (2, .ref q_29), (3, .ref q_53)] dd_L_law_49.2.2.2.2.2.2.2.2.2.2.2.2.2.1 rfl rfl (by decide) rfl rfl ?_
            refine xr_goto (tgt := 27) C dd_L_law_49.2.2.2.2.2.2.2.2.2.2.2.2.2.2.1 rfl ?_
            refine xr_lv (lv' := [(0, .ref b), (1, .ref q_1), (2, .ref q_29), (3, .ref q_53), (4, .int (s_58.1 + 4))]) [3, 4, 5, 6, 0] rfl ?_
            exact hk_58 (s_58.1 + 4, x_408.2.1, x_408.2.2.1, x_408.2.2.2.1, x_408.2.2.2.2.1, x_408.2.2.2.2.2, x_395.2.1, x_395.2.2.1, x_395.2.2.2, s_58.2.2.2.2.2.2.2.2.2.1 + 1, s_58.2.2.2.2.2.2.2.2.2.2 + 6) (Option.some.inj ho_58).symm q_412 q_413 q_400
          · replace ho_58 := yf_f c_416 ho_58
            refine xr_iconst (n := 943) (v := 0) C dd_L_law_32.2.2.2.2.2.2.2.1 rfl rfl ?_
            have e_417 := hx_58 _ (Option.some.inj ho_58).symm
            subst e_417
            replace hR := ybr_r hR
            obtain rfl := Option.some.inj hR
            exact ret 0 rfl g_396.1 g_396.2 dd_L_law_32.2.2.2.2.2.2.2.2.1
      · replace ho_58 := yf_f c_414 ho_58
        refine xr_iconst (n := 925) (v := 0) C dd_L_law_31.2.2.2.2.2.2.2.2.2.2.2.2.2.1 rfl rfl ?_
        have e_418 := hx_58 _ (Option.some.inj ho_58).symm
        subst e_418
        replace hR := ybr_r hR
        obtain rfl := Option.some.inj hR
        exact ret 0 rfl g_396.1 g_396.2 dd_L_law_31.2.2.2.2.2.2.2.2.2.2.2.2.2.2.1
    replace ho_58 := yf_f c_393 ho_58
    by_cases c_419 : ((xs s_58.1.toNatClampNeg) &&& 31) = 12
    · replace ho_58 := yf_t c_419 ho_58
      refine xr_tableIn (off := 904) (tgt := 947) C dL_law_43 (by rw [c_419]; decide) (by rw [c_419]; decide) (by rw [c_419]; decide) rfl ?_
      refine xr_aload_n (n := 948) (j := 1) C dd_L_law_32.2.2.2.2.2.2.2.2.2.2.1 rfl rfl ?_
      refine xr_aload_n (n := 949) (j := 0) C dd_L_law_32.2.2.2.2.2.2.2.2.2.2.2.1 rfl rfl ?_
      refine xr_iload (n := 951) (j := 4) C dd_L_law_32.2.2.2.2.2.2.2.2.2.2.2.2.1 rfl rfl ?_
      refine xr_iconst (n := 952) (v := 1) C dd_L_law_32.2.2.2.2.2.2.2.2.2.2.2.2.2.1 rfl rfl ?_
      refine xr_iadd (n := 953) C dd_L_law_32.2.2.2.2.2.2.2.2.2.2.2.2.2.2.1 rfl ?_
      obtain ⟨g_420, ho_58⟩ := yf_g ho_58
      refine xr_sld (n := 954) C hX hbl hbA g_420 dd_L_law_32.2.2.2.2.2.2.2.2.2.2.2.2.2.2.2.1 rfl ?_
      refine xr_aload_n (n := 955) (j := 0) C dd_L_law_33.1 rfl rfl ?_
      refine xr_iload (n := 957) (j := 4) C dd_L_law_33.2.1 rfl rfl ?_
      refine xr_iconst (n := 958) (v := 2) C dd_L_law_33.2.2.1 rfl rfl ?_
      refine xr_iadd (n := 959) C dd_L_law_33.2.2.2.1 rfl ?_
      obtain ⟨g_421, ho_58⟩ := yf_g ho_58
      refine xr_sld (n := 960) C hX hbl hbA g_421 dd_L_law_33.2.2.2.2.1 rfl ?_
      refine xr_aload_n (n := 961) (j := 0) C dd_L_law_33.2.2.2.2.2.1 rfl rfl ?_
      refine xr_iload (n := 963) (j := 4) C dd_L_law_33.2.2.2.2.2.2.1 rfl rfl ?_
      refine xr_iconst (n := 964) (v := 3) C dd_L_law_33.2.2.2.2.2.2.2.1 rfl rfl ?_
      refine xr_iadd (n := 965) C dd_L_law_33.2.2.2.2.2.2.2.2.1 rfl ?_
      obtain ⟨g_422, ho_58⟩ := yf_g ho_58
      refine xr_sld (n := 966) C hX hbl hbA g_422 dd_L_law_33.2.2.2.2.2.2.2.2.2.1 rfl ?_
      refine xr_aload_n (n := 967) (j := 3) C dd_L_law_33.2.2.2.2.2.2.2.2.2.2.1 rfl rfl ?_
      obtain ⟨x_423, hx_423, ho_58⟩ := yf_b ho_58
      obtain ⟨g_424, ho_58⟩ := yf_g ho_58
      refine xr_callSW (n := 970) (As := [.ref q_1, .int (xs (s_58.1 + 1).toNatClampNeg), .int (xs (s_58.1 + 2).toNatClampNeg), .int (xs (s_58.1 + 3).toNatClampNeg), .ref q_53]) (rest := []) C (kgL_ofCell l D cy hl0 (x := q_1) (a := z_28) (o := q_53) (os := a2_58) (n := s_58.2.2.2.2.2.2.1) (t := s_58.2.2.2.2.2.2.2.1) (on := s_58.2.2.2.2.2.2.2.2.1) (i1 := xs (s_58.1 + 1).toNatClampNeg) (i2 := xs (s_58.1 + 2).toNatClampNeg) (i3 := xs (s_58.1 + 3).toNatClampNeg) hx_423) mL_ofCell u_876 u_877 3 [1, 2] [0] rfl (by decide +kernel) rfl rfl rfl rfl (Nat.le_of_ble_eq_true rfl) (Nat.le_of_ble_eq_true rfl) (Nat.le_of_ble_eq_true rfl) g_424.1 g_424.2 dd_L_law_33.2.2.2.2.2.2.2.2.2.2.2.1 rfl (fun v_425 u_426 hp_427 => ?_)
      obtain ⟨q_428, rfl, rfl⟩ := hp_427
      refine xr_perm C 3 [2, 0, 1] [] [MW q_29 a0_58 a1_58 cy s_58.2.1 s_58.2.2.1 s_58.2.2.2.1 s_58.2.2.2.2.1 s_58.2.2.2.2.2.1, CW q_1 z_28 cy x_423.2.1 x_423.2.2.1, [(q_53, .inr (9, [.long x_423.2.2.2, q_428]))]] rfl (by decide +kernel) rfl ?_
      refine xr_st (st' := [.int x_423.1]) rfl ?_
      refine xr_istore (n := 972) C [(5, .int x_423.1), (0, .ref b), (1, .ref q_1), (2, .ref q_29), (3, .ref q_53), (4, .int s_58.1)] dd_L_law_33.2.2.2.2.2.2.2.2.2.2.2.2.1 (by decide) rfl rfl ?_
      refine xr_aload_n (n := 973) (j := 3) C dd_L_law_33.2.2.2.2.2.2.2.2.2.2.2.2.2.1 rfl rfl ?_
      refine xr_aload_n (n := 974) (j := 1) C dd_L_law_33.2.2.2.2.2.2.2.2.2.2.2.2.2.2.1 rfl rfl ?_
      refine xr_iload (n := 976) (j := 5) C dd_L_law_33.2.2.2.2.2.2.2.2.2.2.2.2.2.2.2.1 rfl rfl ?_
      refine xr_iconst (n := 977) (v := 1) C dd_L_law_34.1 rfl rfl ?_
      refine xr_iadd (n := 978) C dd_L_law_34.2.1 rfl ?_
      obtain ⟨g_429, ho_58⟩ := yf_g ho_58
      refine xr_sld (n := 979) C hX hbl hbA g_429 dd_L_law_34.2.2.1 rfl ?_
      refine xr_aload_n (n := 980) (j := 1) C dd_L_law_34.2.2.2.1 rfl rfl ?_
      refine xr_iload (n := 982) (j := 5) C dd_L_law_34.2.2.2.2.1 rfl rfl ?_
      refine xr_iconst (n := 983) (v := 2) C dd_L_law_34.2.2.2.2.2.1 rfl rfl ?_
      refine xr_iadd (n := 984) C dd_L_law_34.2.2.2.2.2.2.1 rfl ?_
      obtain ⟨g_430, ho_58⟩ := yf_g ho_58
      refine xr_sld (n := 985) C hX hbl hbA g_430 dd_L_law_34.2.2.2.2.2.2.2.1 rfl ?_
      refine xr_aload_n (n := 986) (j := 1) C dd_L_law_34.2.2.2.2.2.2.2.2.1 rfl rfl ?_
      refine xr_iload (n := 988) (j := 5) C dd_L_law_34.2.2.2.2.2.2.2.2.2.1 rfl rfl ?_
      refine xr_iconst (n := 989) (v := 3) C dd_L_law_34.2.2.2.2.2.2.2.2.2.2.1 rfl rfl ?_
      refine xr_iadd (n := 990) C dd_L_law_34.2.2.2.2.2.2.2.2.2.2.2.1 rfl ?_
      obtain ⟨g_431, ho_58⟩ := yf_g ho_58
      refine xr_sld (n := 991) C hX hbl hbA g_431 dd_L_law_34.2.2.2.2.2.2.2.2.2.2.2.2.1 rfl ?_
      obtain ⟨x_432, hx_432, ho_58⟩ := yf_b ho_58
      refine xr_callVP (n := 994) (As := [.int (xs (s_58.1 + 1).toNatClampNeg), .int (xs (s_58.1 + 2).toNatClampNeg), .int (xs (s_58.1 + 3).toNatClampNeg)]) (rest := []) C (kgX9w_ofCell l D cy (g := q_29) (a := a0_58) (ad := a1_58) (sh := s_58.2.1) (n := s_58.2.2.1) (L := s_58.2.2.2.1) (k := s_58.2.2.2.2.1) (G := s_58.2.2.2.2.2.1) (i1 := xs (s_58.1 + 1).toNatClampNeg) (i2 := xs (s_58.1 + 2).toNatClampNeg) (i3 := xs (s_58.1 + 3).toNatClampNeg) hx_432) mX9_ofCell u_1516 u_1517 u_1518 0 rfl (MW_head _ _ _ _ _ _ _ _ _) rfl 3 [0] [1, 2] rfl (by decide +kernel) rfl rfl rfl rfl (Nat.le_of_ble_eq_true rfl) (Nat.le_of_ble_eq_true rfl) (Nat.le_of_ble_eq_true rfl) g_424.1 g_424.2 dd_L_law_34.2.2.2.2.2.2.2.2.2.2.2.2.2.1 rfl (fun v_433 u_434 hp_435 => ?_)
      obtain ⟨q_436, q_437, rfl, rfl⟩ := hp_435
      refine xr_perm C 3 [0, 1, 2] [] [MW q_29 q_436 q_437 cy x_432.2.1 x_432.2.2.1 x_432.2.2.2.1 x_432.2.2.2.2.1 x_432.2.2.2.2.2, CW q_1 z_28 cy x_423.2.1 x_423.2.2.1, [(q_53, .inr (9, [.long x_423.2.2.2, q_428]))]] rfl (by decide +kernel) rfl ?_
      refine xr_st (st' := [.int x_432.1]) rfl ?_
      refine xr_istore (n := 996) C [(6, .int x_432.1), (5, .int x_423.1), (0, .ref b), (1, .ref q_1), (2, .ref q_29), (3, .ref q_53), (4, .int s_58.1)] dd_L_law_34.2.2.2.2.2.2.2.2.2.2.2.2.2.2.1 (by decide) rfl rfl ?_
      refine xr_aload_n (n := 997) (j := 4) C dd_L_law_34.2.2.2.2.2.2.2.2.2.2.2.2.2.2.2.1 rfl rfl ?_
      obtain ⟨x_438, hx_438, ho_58⟩ := yf_b ho_58
      refine xr_callVP (n := 1000) (As := []) (rest := []) C (kgX9w_thrown l D cy (g := q_29) (a := q_436) (ad := q_437) (sh := x_432.2.1) (n := x_432.2.2.1) (L := x_432.2.2.2.1) (k := x_432.2.2.2.2.1) (G := x_432.2.2.2.2.2) hx_438) mX9_thrown u_1290 u_1291 u_1292 0 rfl (MW_head _ _ _ _ _ _ _ _ _) rfl 3 [0] [1, 2] rfl (by decide +kernel) rfl rfl rfl rfl (Nat.le_of_ble_eq_true rfl) (Nat.le_of_ble_eq_true rfl) (Nat.le_of_ble_eq_true rfl) g_424.1 g_424.2 dd_L_law_35.1 rfl (fun v_439 u_440 hp_441 => ?_)
      obtain ⟨q_442, q_443, rfl, rfl⟩ := hp_441
      refine xr_perm C 3 [0, 1, 2] [] [MW q_29 q_442 q_443 cy x_438.2.1 x_438.2.2.1 x_438.2.2.2.1 x_438.2.2.2.2.1 x_438.2.2.2.2.2, CW q_1 z_28 cy x_423.2.1 x_423.2.2.1, [(q_53, .inr (9, [.long x_423.2.2.2, q_428]))]] rfl (by decide +kernel) rfl ?_
      refine xr_st (st' := [.int x_438.1]) rfl ?_
      refine xr_iload (n := 1002) (j := 1) C dd_L_law_35.2.1 rfl rfl ?_
      refine xr_icmp_eq (tgt := 1007) (n := 1005) C dd_L_law_35.2.2.1 rfl rfl (fun c_444 => ?_) (fun c_444 => ?_)
      · replace ho_58 := yf_t c_444 ho_58
        refine xr_iload (n := 1009) (j := 1) C dd_L_law_35.2.2.2.2.2.1 rfl rfl ?_
        refine xr_if_ne (tgt := 1025) (n := 1012) C dd_L_law_35.2.2.2.2.2.2.1 rfl rfl (fun c_445 => ?_) (fun c_445 => ?_)
        · replace ho_58 := yf_f c_445 ho_58
          refine xr_goto (tgt := 1390) C dd_L_law_35.2.2.2.2.2.2.2.2.2.2.2.2.2.2.2.1 rfl ?_
          refine xr_iinc (j := 6) (v := s_58.1 + 4) (n := 1393) C [(4, .int (s_58.1 + 4)), (6, .int x_432.1), (5, .int x_423.1), (0, .ref b), (1, .ref q_1), (2, .ref q_29), (3, .ref q_53)] dd_L_law_49.2.2.2.2.2.2.2.2.2.2.2.2.2.1 rfl rfl (by decide) rfl rfl ?_
          refine xr_goto (tgt := 27) C dd_L_law_49.2.2.2.2.2.2.2.2.2.2.2.2.2.2.1 rfl ?_
          refine xr_lv (lv' := [(0, .ref b), (1, .ref q_1), (2, .ref q_29), (3, .ref q_53), (4, .int (s_58.1 + 4))]) [3, 4, 5, 6, 0] rfl ?_
          exact hk_58 (s_58.1 + 4, x_438.2.1, x_438.2.2.1, x_438.2.2.2.1, x_438.2.2.2.2.1, x_438.2.2.2.2.2, x_423.2.1, x_423.2.2.1, x_423.2.2.2, s_58.2.2.2.2.2.2.2.2.2.1 + 1, s_58.2.2.2.2.2.2.2.2.2.2 + 6) (Option.some.inj ho_58).symm q_442 q_443 q_428
        · replace ho_58 := yf_t c_445 ho_58
          refine xr_aload_n (n := 1013) (j := 5) C dd_L_law_35.2.2.2.2.2.2.2.1 rfl rfl ?_
          refine xr_getN (n := 1016) C 2 rfl rfl 0 (by decide) in_X7 RL (List.mem_of_getElem? (i := 46) rfl) rfl (v := .long x_423.2.2.2) rfl dd_L_law_35.2.2.2.2.2.2.2.2.1 rfl ?_
          refine xr_iload (n := 1018) (j := 0) C dd_L_law_35.2.2.2.2.2.2.2.2.2.1 rfl rfl ?_
          refine xr_i2l (n := 1019) C dd_L_law_35.2.2.2.2.2.2.2.2.2.2.1 rfl ?_
          refine xr_lcmp (n := 1020) C dd_L_law_35.2.2.2.2.2.2.2.2.2.2.2.1 rfl ?_
          refine xr_if_eq (tgt := 1025) (n := 1023) C dd_L_law_35.2.2.2.2.2.2.2.2.2.2.2.2.1 rfl rfl (fun c_446 => ?_) (fun c_446 => ?_)
          · replace ho_58 := yf_t c_446 ho_58
            refine xr_goto (tgt := 1390) C dd_L_law_35.2.2.2.2.2.2.2.2.2.2.2.2.2.2.2.1 rfl ?_
            refine xr_iinc (j := 6) (v := s_58.1 + 4) (n := 1393) C [(4, .int (s_58.1 + 4)), (6, .int x_432.1), (5, .int x_423.1), (0, .ref b), (1, .ref q_1), (2, .ref q_29), (3, .ref q_53)] dd_L_law_49.2.2.2.2.2.2.2.2.2.2.2.2.2.1 rfl rfl (by decide) rfl rfl ?_
            refine xr_goto (tgt := 27) C dd_L_law_49.2.2.2.2.2.2.2.2.2.2.2.2.2.2.1 rfl ?_
            refine xr_lv (lv' := [(0, .ref b), (1, .ref q_1), (2, .ref q_29), (3, .ref q_53), (4, .int (s_58.1 + 4))]) [3, 4, 5, 6, 0] rfl ?_
            exact hk_58 (s_58.1 + 4, x_438.2.1, x_438.2.2.1, x_438.2.2.2.1, x_438.2.2.2.2.1, x_438.2.2.2.2.2, x_423.2.1, x_423.2.2.1, x_423.2.2.2, s_58.2.2.2.2.2.2.2.2.2.1 + 1, s_58.2.2.2.2.2.2.2.2.2.2 + 6) (Option.some.inj ho_58).symm q_442 q_443 q_428
          · replace ho_58 := yf_f c_446 ho_58
            refine xr_iconst (n := 1024) (v := 0) C dd_L_law_35.2.2.2.2.2.2.2.2.2.2.2.2.2.1 rfl rfl ?_
            have e_447 := hx_58 _ (Option.some.inj ho_58).symm
            subst e_447
            replace hR := ybr_r hR
            obtain rfl := Option.some.inj hR
            exact ret 0 rfl g_424.1 g_424.2 dd_L_law_35.2.2.2.2.2.2.2.2.2.2.2.2.2.2.1
      · replace ho_58 := yf_f c_444 ho_58
        refine xr_iconst (n := 1006) (v := 0) C dd_L_law_35.2.2.2.1 rfl rfl ?_
        have e_448 := hx_58 _ (Option.some.inj ho_58).symm
        subst e_448
        replace hR := ybr_r hR
        obtain rfl := Option.some.inj hR
        exact ret 0 rfl g_424.1 g_424.2 dd_L_law_35.2.2.2.2.1
    replace ho_58 := yf_f c_419 ho_58
    by_cases c_449 : ((xs s_58.1.toNatClampNeg) &&& 31) = 13
    · replace ho_58 := yf_t c_449 ho_58
      refine xr_tableIn (off := 985) (tgt := 1028) C dL_law_43 (by rw [c_449]; decide) (by rw [c_449]; decide) (by rw [c_449]; decide) rfl ?_
      refine xr_aload_n (n := 1029) (j := 1) C dd_L_law_36.1 rfl rfl ?_
      refine xr_aload_n (n := 1030) (j := 0) C dd_L_law_36.2.1 rfl rfl ?_
      refine xr_iload (n := 1032) (j := 4) C dd_L_law_36.2.2.1 rfl rfl ?_
      refine xr_iconst (n := 1033) (v := 1) C dd_L_law_36.2.2.2.1 rfl rfl ?_
      refine xr_iadd (n := 1034) C dd_L_law_36.2.2.2.2.1 rfl ?_
      obtain ⟨g_450, ho_58⟩ := yf_g ho_58
      refine xr_sld (n := 1035) C hX hbl hbA g_450 dd_L_law_36.2.2.2.2.2.1 rfl ?_
      refine xr_aload_n (n := 1036) (j := 0) C dd_L_law_36.2.2.2.2.2.2.1 rfl rfl ?_
      refine xr_iload (n := 1038) (j := 4) C dd_L_law_36.2.2.2.2.2.2.2.1 rfl rfl ?_
      refine xr_iconst (n := 1039) (v := 2) C dd_L_law_36.2.2.2.2.2.2.2.2.1 rfl rfl ?_
      refine xr_iadd (n := 1040) C dd_L_law_36.2.2.2.2.2.2.2.2.2.1 rfl ?_
      obtain ⟨g_451, ho_58⟩ := yf_g ho_58
      refine xr_sld (n := 1041) C hX hbl hbA g_451 dd_L_law_36.2.2.2.2.2.2.2.2.2.2.1 rfl ?_
      refine xr_aload_n (n := 1042) (j := 3) C dd_L_law_36.2.2.2.2.2.2.2.2.2.2.2.1 rfl rfl ?_
      obtain ⟨x_452, hx_452, ho_58⟩ := yf_b ho_58
      obtain ⟨g_453, ho_58⟩ := yf_g ho_58
      refine xr_callSW (n := 1045) (As := [.ref q_1, .int (xs (s_58.1 + 1).toNatClampNeg), .int (xs (s_58.1 + 2).toNatClampNeg), .ref q_53]) (rest := []) C (kgL_result l D cy hl0 (x := q_1) (a := z_28) (o := q_53) (os := a2_58) (n := s_58.2.2.2.2.2.2.1) (t := s_58.2.2.2.2.2.2.2.1) (on := s_58.2.2.2.2.2.2.2.2.1) (i1 := xs (s_58.1 + 1).toNatClampNeg) (i2 := xs (s_58.1 + 2).toNatClampNeg) hx_452) mL_result u_884 u_885 3 [1, 2] [0] rfl (by decide +kernel) rfl rfl rfl rfl (Nat.le_of_ble_eq_true rfl) (Nat.le_of_ble_eq_true rfl) (Nat.le_of_ble_eq_true rfl) g_453.1 g_453.2 dd_L_law_36.2.2.2.2.2.2.2.2.2.2.2.2.1 rfl (fun v_454 u_455 hp_456 => ?_)
      obtain ⟨q_457, rfl, rfl⟩ := hp_456
      refine xr_perm C 3 [2, 0, 1] [] [MW q_29 a0_58 a1_58 cy s_58.2.1 s_58.2.2.1 s_58.2.2.2.1 s_58.2.2.2.2.1 s_58.2.2.2.2.2.1, CW q_1 z_28 cy x_452.2.1 x_452.2.2.1, [(q_53, .inr (9, [.long x_452.2.2.2, q_457]))]] rfl (by decide +kernel) rfl ?_
      refine xr_st (st' := [.int x_452.1]) rfl ?_
      refine xr_istore (n := 1047) C [(5, .int x_452.1), (0, .ref b), (1, .ref q_1), (2, .ref q_29), (3, .ref q_53), (4, .int s_58.1)] dd_L_law_36.2.2.2.2.2.2.2.2.2.2.2.2.2.1 (by decide) rfl rfl ?_
      refine xr_aload_n (n := 1048) (j := 3) C dd_L_law_36.2.2.2.2.2.2.2.2.2.2.2.2.2.2.1 rfl rfl ?_
      refine xr_aload_n (n := 1049) (j := 1) C dd_L_law_36.2.2.2.2.2.2.2.2.2.2.2.2.2.2.2.1 rfl rfl ?_
      refine xr_iload (n := 1051) (j := 5) C dd_L_law_37.1 rfl rfl ?_
      refine xr_iconst (n := 1052) (v := 1) C dd_L_law_37.2.1 rfl rfl ?_
      refine xr_iadd (n := 1053) C dd_L_law_37.2.2.1 rfl ?_
      obtain ⟨g_458, ho_58⟩ := yf_g ho_58
      refine xr_sld (n := 1054) C hX hbl hbA g_458 dd_L_law_37.2.2.2.1 rfl ?_
      refine xr_aload_n (n := 1055) (j := 1) C dd_L_law_37.2.2.2.2.1 rfl rfl ?_
      refine xr_iload (n := 1057) (j := 5) C dd_L_law_37.2.2.2.2.2.1 rfl rfl ?_
      refine xr_iconst (n := 1058) (v := 2) C dd_L_law_37.2.2.2.2.2.2.1 rfl rfl ?_
      refine xr_iadd (n := 1059) C dd_L_law_37.2.2.2.2.2.2.2.1 rfl ?_
      obtain ⟨g_459, ho_58⟩ := yf_g ho_58
      refine xr_sld (n := 1060) C hX hbl hbA g_459 dd_L_law_37.2.2.2.2.2.2.2.2.1 rfl ?_
      obtain ⟨x_460, hx_460, ho_58⟩ := yf_b ho_58
      refine xr_callVP (n := 1063) (As := [.int (xs (s_58.1 + 1).toNatClampNeg), .int (xs (s_58.1 + 2).toNatClampNeg)]) (rest := []) C (kgX9w_result l D cy (g := q_29) (a := a0_58) (ad := a1_58) (sh := s_58.2.1) (n := s_58.2.2.1) (L := s_58.2.2.2.1) (k := s_58.2.2.2.2.1) (G := s_58.2.2.2.2.2.1) (i1 := xs (s_58.1 + 1).toNatClampNeg) (i2 := xs (s_58.1 + 2).toNatClampNeg) hx_460) mX9_result u_1531 u_1532 u_1533 0 rfl (MW_head _ _ _ _ _ _ _ _ _) rfl 3 [0] [1, 2] rfl (by decide +kernel) rfl rfl rfl rfl (Nat.le_of_ble_eq_true rfl) (Nat.le_of_ble_eq_true rfl) (Nat.le_of_ble_eq_true rfl) g_453.1 g_453.2 dd_L_law_37.2.2.2.2.2.2.2.2.2.1 rfl (fun v_461 u_462 hp_463 => ?_)
      obtain ⟨q_464, q_465, rfl, rfl⟩ := hp_463
      refine xr_perm C 3 [0, 1, 2] [] [MW q_29 q_464 q_465 cy x_460.2.1 x_460.2.2.1 x_460.2.2.2.1 x_460.2.2.2.2.1 x_460.2.2.2.2.2, CW q_1 z_28 cy x_452.2.1 x_452.2.2.1, [(q_53, .inr (9, [.long x_452.2.2.2, q_457]))]] rfl (by decide +kernel) rfl ?_
      refine xr_st (st' := [.int x_460.1]) rfl ?_
      refine xr_istore (n := 1065) C [(6, .int x_460.1), (5, .int x_452.1), (0, .ref b), (1, .ref q_1), (2, .ref q_29), (3, .ref q_53), (4, .int s_58.1)] dd_L_law_37.2.2.2.2.2.2.2.2.2.2.1 (by decide) rfl rfl ?_
      refine xr_aload_n (n := 1066) (j := 4) C dd_L_law_37.2.2.2.2.2.2.2.2.2.2.2.1 rfl rfl ?_
      obtain ⟨x_466, hx_466, ho_58⟩ := yf_b ho_58
      refine xr_callVP (n := 1069) (As := []) (rest := []) C (kgX9w_thrown l D cy (g := q_29) (a := q_464) (ad := q_465) (sh := x_460.2.1) (n := x_460.2.2.1) (L := x_460.2.2.2.1) (k := x_460.2.2.2.2.1) (G := x_460.2.2.2.2.2) hx_466) mX9_thrown u_1290 u_1291 u_1292 0 rfl (MW_head _ _ _ _ _ _ _ _ _) rfl 3 [0] [1, 2] rfl (by decide +kernel) rfl rfl rfl rfl (Nat.le_of_ble_eq_true rfl) (Nat.le_of_ble_eq_true rfl) (Nat.le_of_ble_eq_true rfl) g_453.1 g_453.2 dd_L_law_37.2.2.2.2.2.2.2.2.2.2.2.2.1 rfl (fun v_467 u_468 hp_469 => ?_)
      obtain ⟨q_470, q_471, rfl, rfl⟩ := hp_469
      refine xr_perm C 3 [0, 1, 2] [] [MW q_29 q_470 q_471 cy x_466.2.1 x_466.2.2.1 x_466.2.2.2.1 x_466.2.2.2.2.1 x_466.2.2.2.2.2, CW q_1 z_28 cy x_452.2.1 x_452.2.2.1, [(q_53, .inr (9, [.long x_452.2.2.2, q_457]))]] rfl (by decide +kernel) rfl ?_
      refine xr_st (st' := [.int x_466.1]) rfl ?_
      refine xr_iload (n := 1071) (j := 1) C dd_L_law_37.2.2.2.2.2.2.2.2.2.2.2.2.2.1 rfl rfl ?_
      refine xr_icmp_eq (tgt := 1076) (n := 1074) C dd_L_law_37.2.2.2.2.2.2.2.2.2.2.2.2.2.2.1 rfl rfl (fun c_472 => ?_) (fun c_472 => ?_)
      · replace ho_58 := yf_t c_472 ho_58
        refine xr_iload (n := 1078) (j := 1) C dd_L_law_38.2.1 rfl rfl ?_
        refine xr_if_ne (tgt := 1094) (n := 1081) C dd_L_law_38.2.2.1 rfl rfl (fun c_473 => ?_) (fun c_473 => ?_)
        · replace ho_58 := yf_f c_473 ho_58
          refine xr_goto (tgt := 1390) C dd_L_law_38.2.2.2.2.2.2.2.2.2.2.2.1 rfl ?_
          refine xr_iinc (j := 6) (v := s_58.1 + 4) (n := 1393) C [(4, .int (s_58.1 + 4)), (6, .int x_460.1), (5, .int x_452.1), (0, .ref b), (1, .ref q_1), (2, .ref q_29), (3, .ref q_53)] dd_L_law_49.2.2.2.2.2.2.2.2.2.2.2.2.2.1 rfl rfl (by decide) rfl rfl ?_
          refine xr_goto (tgt := 27) C dd_L_law_49.2.2.2.2.2.2.2.2.2.2.2.2.2.2.1 rfl ?_
          refine xr_lv (lv' := [(0, .ref b), (1, .ref q_1), (2, .ref q_29), (3, .ref q_53), (4, .int (s_58.1 + 4))]) [3, 4, 5, 6, 0] rfl ?_
          exact hk_58 (s_58.1 + 4, x_466.2.1, x_466.2.2.1, x_466.2.2.2.1, x_466.2.2.2.2.1, x_466.2.2.2.2.2, x_452.2.1, x_452.2.2.1, x_452.2.2.2, s_58.2.2.2.2.2.2.2.2.2.1 + 1, s_58.2.2.2.2.2.2.2.2.2.2 + 6) (Option.some.inj ho_58).symm q_470 q_471 q_457
        · replace ho_58 := yf_t c_473 ho_58
          refine xr_aload_n (n := 1082) (j := 5) C dd_L_law_38.2.2.2.1 rfl rfl ?_
          refine xr_getN (n := 1085) C 2 rfl rfl 0 (by decide) in_X7 RL (List.mem_of_getElem? (i := 46) rfl) rfl (v := .long x_452.2.2.2) rfl dd_L_law_38.2.2.2.2.1 rfl ?_
          refine xr_iload (n := 1087) (j := 0) C dd_L_law_38.2.2.2.2.2.1 rfl rfl ?_
          refine xr_i2l (n := 1088) C dd_L_law_38.2.2.2.2.2.2.1 rfl ?_
          refine xr_lcmp (n := 1089) C dd_L_law_38.2.2.2.2.2.2.2.1 rfl ?_
          refine xr_if_eq (tgt := 1094) (n := 1092) C dd_L_law_38.2.2.2.2.2.2.2.2.1 rfl rfl (fun c_474 => ?_) (fun c_474 => ?_)
          · replace ho_58 := yf_t c_474 ho_58
            refine xr_goto (tgt := 1390) C dd_L_law_38.2.2.2.2.2.2.2.2.2.2.2.1 rfl ?_
            refine xr_iinc (j := 6) (v := s_58.1 + 4) (n := 1393) C [(4, .int (s_58.1 + 4)), (6, .int x_460.1), (5, .int x_452.1), (0, .ref b), (1, .ref q_1), (2, .ref q_29), (3, .ref q_53)] dd_L_law_49.2.2.2.2.2.2.2.2.2.2.2.2.2.1 rfl rfl (by decide) rfl rfl ?_
            refine xr_goto (tgt := 27) C dd_L_law_49.2.2.2.2.2.2.2.2.2.2.2.2.2.2.1 rfl ?_
            refine xr_lv (lv' := [(0, .ref b), (1, .ref q_1), (2, .ref q_29), (3, .ref q_53), (4, .int (s_58.1 + 4))]) [3, 4, 5, 6, 0] rfl ?_
            exact hk_58 (s_58.1 + 4, x_466.2.1, x_466.2.2.1, x_466.2.2.2.1, x_466.2.2.2.2.1, x_466.2.2.2.2.2, x_452.2.1, x_452.2.2.1, x_452.2.2.2, s_58.2.2.2.2.2.2.2.2.2.1 + 1, s_58.2.2.2.2.2.2.2.2.2.2 + 6) (Option.some.inj ho_58).symm q_470 q_471 q_457
          · replace ho_58 := yf_f c_474 ho_58
            refine xr_iconst (n := 1093) (v := 0) C dd_L_law_38.2.2.2.2.2.2.2.2.2.1 rfl rfl ?_
            have e_475 := hx_58 _ (Option.some.inj ho_58).symm
            subst e_475
            replace hR := ybr_r hR
            obtain rfl := Option.some.inj hR
            exact ret 0 rfl g_453.1 g_453.2 dd_L_law_38.2.2.2.2.2.2.2.2.2.2.1
      · replace ho_58 := yf_f c_472 ho_58
        refine xr_iconst (n := 1075) (v := 0) C dd_L_law_37.2.2.2.2.2.2.2.2.2.2.2.2.2.2.2.1 rfl rfl ?_
        have e_476 := hx_58 _ (Option.some.inj ho_58).symm
        subst e_476
        replace hR := ybr_r hR
        obtain rfl := Option.some.inj hR
        exact ret 0 rfl g_453.1 g_453.2 dd_L_law_38.1
    replace ho_58 := yf_f c_449 ho_58
    by_cases c_477 : ((xs s_58.1.toNatClampNeg) &&& 31) = 14
    · replace ho_58 := yf_t c_477 ho_58
      refine xr_tableIn (off := 1054) (tgt := 1097) C dL_law_43 (by rw [c_477]; decide) (by rw [c_477]; decide) (by rw [c_477]; decide) rfl ?_
      refine xr_aload_n (n := 1098) (j := 1) C dd_L_law_38.2.2.2.2.2.2.2.2.2.2.2.2.1 rfl rfl ?_
      refine xr_aload_n (n := 1099) (j := 0) C dd_L_law_38.2.2.2.2.2.2.2.2.2.2.2.2.2.1 rfl rfl ?_
      refine xr_iload (n := 1101) (j := 4) C dd_L_law_38.2.2.2.2.2.2.2.2.2.2.2.2.2.2.1 rfl rfl ?_
      refine xr_iconst (n := 1102) (v := 1) C dd_L_law_38.2.2.2.2.2.2.2.2.2.2.2.2.2.2.2.1 rfl rfl ?_
      refine xr_iadd (n := 1103) C dd_L_law_39.1 rfl ?_
      obtain ⟨g_478, ho_58⟩ := yf_g ho_58
      refine xr_sld (n := 1104) C hX hbl hbA g_478 dd_L_law_39.2.1 rfl ?_
      refine xr_aload_n (n := 1105) (j := 0) C dd_L_law_39.2.2.1 rfl rfl ?_
      refine xr_iload (n := 1107) (j := 4) C dd_L_law_39.2.2.2.1 rfl rfl ?_
      refine xr_iconst (n := 1108) (v := 2) C dd_L_law_39.2.2.2.2.1 rfl rfl ?_
      refine xr_iadd (n := 1109) C dd_L_law_39.2.2.2.2.2.1 rfl ?_
      obtain ⟨g_479, ho_58⟩ := yf_g ho_58
      refine xr_sld (n := 1110) C hX hbl hbA g_479 dd_L_law_39.2.2.2.2.2.2.1 rfl ?_
      refine xr_aload_n (n := 1111) (j := 3) C dd_L_law_39.2.2.2.2.2.2.2.1 rfl rfl ?_
      obtain ⟨x_480, hx_480, ho_58⟩ := yf_b ho_58
      obtain ⟨g_481, ho_58⟩ := yf_g ho_58
      refine xr_callSW (n := 1114) (As := [.ref q_1, .int (xs (s_58.1 + 1).toNatClampNeg), .int (xs (s_58.1 + 2).toNatClampNeg), .ref q_53]) (rest := []) C (kgL_plain l D cy hl0 (x := q_1) (a := z_28) (o := q_53) (os := a2_58) (n := s_58.2.2.2.2.2.2.1) (t := s_58.2.2.2.2.2.2.2.1) (on := s_58.2.2.2.2.2.2.2.2.1) (i1 := xs (s_58.1 + 1).toNatClampNeg) (i2 := xs (s_58.1 + 2).toNatClampNeg) hx_480) mL_plain u_891 u_892 3 [1, 2] [0] rfl (by decide +kernel) rfl rfl rfl rfl (Nat.le_of_ble_eq_true rfl) (Nat.le_of_ble_eq_true rfl) (Nat.le_of_ble_eq_true rfl) g_481.1 g_481.2 dd_L_law_39.2.2.2.2.2.2.2.2.1 rfl (fun v_482 u_483 hp_484 => ?_)
      obtain ⟨q_485, rfl, rfl⟩ := hp_484
      refine xr_perm C 3 [2, 0, 1] [] [MW q_29 a0_58 a1_58 cy s_58.2.1 s_58.2.2.1 s_58.2.2.2.1 s_58.2.2.2.2.1 s_58.2.2.2.2.2.1, CW q_1 z_28 cy x_480.2.1 x_480.2.2.1, [(q_53, .inr (9, [.long x_480.2.2.2, q_485]))]] rfl (by decide +kernel) rfl ?_
      refine xr_st (st' := [.int x_480.1]) rfl ?_
      refine xr_istore (n := 1116) C [(5, .int x_480.1), (0, .ref b), (1, .ref q_1), (2, .ref q_29), (3, .ref q_53), (4, .int s_58.1)] dd_L_law_39.2.2.2.2.2.2.2.2.2.1 (by decide) rfl rfl ?_
      refine xr_aload_n (n := 1117) (j := 3) C dd_L_law_39.2.2.2.2.2.2.2.2.2.2.1 rfl rfl ?_
      refine xr_aload_n (n := 1118) (j := 1) C dd_L_law_39.2.2.2.2.2.2.2.2.2.2.2.1 rfl rfl ?_
      refine xr_iload (n := 1120) (j := 5) C dd_L_law_39.2.2.2.2.2.2.2.2.2.2.2.2.1 rfl rfl ?_
      refine xr_iconst (n := 1121) (v := 1) C dd_L_law_39.2.2.2.2.2.2.2.2.2.2.2.2.2.1 rfl rfl ?_
      refine xr_iadd (n := 1122) C dd_L_law_39.2.2.2.2.2.2.2.2.2.2.2.2.2.2.1 rfl ?_
      obtain ⟨g_486, ho_58⟩ := yf_g ho_58
      refine xr_sld (n := 1123) C hX hbl hbA g_486 dd_L_law_39.2.2.2.2.2.2.2.2.2.2.2.2.2.2.2.1 rfl ?_
      refine xr_aload_n (n := 1124) (j := 1) C dd_L_law_40.1 rfl rfl ?_
      refine xr_iload (n := 1126) (j := 5) C dd_L_law_40.2.1 rfl rfl ?_
      refine xr_iconst (n := 1127) (v := 2) C dd_L_law_40.2.2.1 rfl rfl ?_
      refine xr_iadd (n := 1128) C dd_L_law_40.2.2.2.1 rfl ?_
      obtain ⟨g_487, ho_58⟩ := yf_g ho_58
      refine xr_sld (n := 1129) C hX hbl hbA g_487 dd_L_law_40.2.2.2.2.1 rfl ?_
      obtain ⟨x_488, hx_488, ho_58⟩ := yf_b ho_58
      refine xr_callVP (n := 1132) (As := [.int (xs (s_58.1 + 1).toNatClampNeg), .int (xs (s_58.1 + 2).toNatClampNeg)]) (rest := []) C (kgX9w_plain l D cy (g := q_29) (a := a0_58) (ad := a1_58) (sh := s_58.2.1) (n := s_58.2.2.1) (L := s_58.2.2.2.1) (k := s_58.2.2.2.2.1) (G := s_58.2.2.2.2.2.1) (i1 := xs (s_58.1 + 1).toNatClampNeg) (i2 := xs (s_58.1 + 2).toNatClampNeg) hx_488) mX9_plain u_1535 u_1536 u_1537 0 rfl (MW_head _ _ _ _ _ _ _ _ _) rfl 3 [0] [1, 2] rfl (by decide +kernel) rfl rfl rfl rfl (Nat.le_of_ble_eq_true rfl) (Nat.le_of_ble_eq_true rfl) (Nat.le_of_ble_eq_true rfl) g_481.1 g_481.2 dd_L_law_40.2.2.2.2.2.1 rfl (fun v_489 u_490 hp_491 => ?_)
      obtain ⟨q_492, q_493, rfl, rfl⟩ := hp_491
      refine xr_perm C 3 [0, 1, 2] [] [MW q_29 q_492 q_493 cy x_488.2.1 x_488.2.2.1 x_488.2.2.2.1 x_488.2.2.2.2.1 x_488.2.2.2.2.2, CW q_1 z_28 cy x_480.2.1 x_480.2.2.1, [(q_53, .inr (9, [.long x_480.2.2.2, q_485]))]] rfl (by decide +kernel) rfl ?_
      refine xr_st (st' := [.int x_488.1]) rfl ?_
      refine xr_istore (n := 1134) C [(6, .int x_488.1), (5, .int x_480.1), (0, .ref b), (1, .ref q_1), (2, .ref q_29), (3, .ref q_53), (4, .int s_58.1)] dd_L_law_40.2.2.2.2.2.2.1 (by decide) rfl rfl ?_
      refine xr_aload_n (n := 1135) (j := 4) C dd_L_law_40.2.2.2.2.2.2.2.1 rfl rfl ?_
      obtain ⟨x_494, hx_494, ho_58⟩ := yf_b ho_58
      refine xr_callVP (n := 1138) (As := []) (rest := []) C (kgX9w_thrown l D cy (g := q_29) (a := q_492) (ad := q_493) (sh := x_488.2.1) (n := x_488.2.2.1) (L := x_488.2.2.2.1) (k := x_488.2.2.2.2.1) (G := x_488.2.2.2.2.2) hx_494) mX9_thrown u_1290 u_1291 u_1292 0 rfl (MW_head _ _ _ _ _ _ _ _ _) rfl 3 [0] [1, 2] rfl (by decide +kernel) rfl rfl rfl rfl (Nat.le_of_ble_eq_true rfl) (Nat.le_of_ble_eq_true rfl) (Nat.le_of_ble_eq_true rfl) g_481.1 g_481.2 dd_L_law_40.2.2.2.2.2.2.2.2.1 rfl (fun v_495 u_496 hp_497 => ?_)
      obtain ⟨q_498, q_499, rfl, rfl⟩ := hp_497
      refine xr_perm C 3 [0, 1, 2] [] [MW q_29 q_498 q_499 cy x_494.2.1 x_494.2.2.1 x_494.2.2.2.1 x_494.2.2.2.2.1 x_494.2.2.2.2.2, CW q_1 z_28 cy x_480.2.1 x_480.2.2.1, [(q_53, .inr (9, [.long x_480.2.2.2, q_485]))]] rfl (by decide +kernel) rfl ?_
      refine xr_st (st' := [.int x_494.1]) rfl ?_
      refine xr_iload (n := 1140) (j := 1) C dd_L_law_40.2.2.2.2.2.2.2.2.2.1 rfl rfl ?_
      refine xr_icmp_eq (tgt := 1145) (n := 1143) C dd_L_law_40.2.2.2.2.2.2.2.2.2.2.1 rfl rfl (fun c_500 => ?_) (fun c_500 => ?_)
      · replace ho_58 := yf_t c_500 ho_58
        refine xr_iload (n := 1147) (j := 1) C dd_L_law_40.2.2.2.2.2.2.2.2.2.2.2.2.2.1 rfl rfl ?_
        refine xr_if_ne (tgt := 1163) (n := 1150) C dd_L_law_40.2.2.2.2.2.2.2.2.2.2.2.2.2.2.1 rfl rfl (fun c_501 => ?_) (fun c_501 => ?_)
        · replace ho_58 := yf_f c_501 ho_58
          refine xr_goto (tgt := 1390) C dd_L_law_41.2.2.2.2.2.2.2.1 rfl ?_
          refine xr_iinc (j := 6) (v := s_58.1 + 4) (n := 1393) C [(4, .int (s_58.1 + 4)), (6, .int x_488.1), (5, .int x_480.1), (0, .ref b), (1, .ref q_1), (2, .ref q_29), (3, .ref q_53)] dd_L_law_49.2.2.2.2.2.2.2.2.2.2.2.2.2.1 rfl rfl (by decide) rfl rfl ?_
          refine xr_goto (tgt := 27) C dd_L_law_49.2.2.2.2.2.2.2.2.2.2.2.2.2.2.1 rfl ?_
          refine xr_lv (lv' := [(0, .ref b), (1, .ref q_1), (2, .ref q_29), (3, .ref q_53), (4, .int (s_58.1 + 4))]) [3, 4, 5, 6, 0] rfl ?_
          exact hk_58 (s_58.1 + 4, x_494.2.1, x_494.2.2.1, x_494.2.2.2.1, x_494.2.2.2.2.1, x_494.2.2.2.2.2, x_480.2.1, x_480.2.2.1, x_480.2.2.2, s_58.2.2.2.2.2.2.2.2.2.1 + 1, s_58.2.2.2.2.2.2.2.2.2.2 + 6) (Option.some.inj ho_58).symm q_498 q_499 q_485
        · replace ho_58 := yf_t c_501 ho_58
          refine xr_aload_n (n := 1151) (j := 5) C dd_L_law_40.2.2.2.2.2.2.2.2.2.2.2.2.2.2.2.1 rfl rfl ?_
          refine xr_getN (n := 1154) C 2 rfl rfl 0 (by decide) in_X7 RL (List.mem_of_getElem? (i := 46) rfl) rfl (v := .long x_480.2.2.2) rfl dd_L_law_41.1 rfl ?_
          refine xr_iload (n := 1156) (j := 0) C dd_L_law_41.2.1 rfl rfl ?_
          refine xr_i2l (n := 1157) C dd_L_law_41.2.2.1 rfl ?_
          refine xr_lcmp (n := 1158) C dd_L_law_41.2.2.2.1 rfl ?_
          refine xr_if_eq (tgt := 1163) (n := 1161) C dd_L_law_41.2.2.2.2.1 rfl rfl (fun c_502 => ?_) (fun c_502 => ?_)
          · replace ho_58 := yf_t c_502 ho_58
            refine xr_goto (tgt := 1390) C dd_L_law_41.2.2.2.2.2.2.2.1 rfl ?_
            refine xr_iinc (j := 6) (v := s_58.1 + 4) (n := 1393) C [(4, .int (s_58.1 + 4)), (6, .int x_488.1), (5, .int x_480.1), (0, .ref b), (1, .ref q_1), (2, .ref q_29), (3, .ref q_53)] dd_L_law_49.2.2.2.2.2.2.2.2.2.2.2.2.2.1 rfl rfl (by decide) rfl rfl ?_
            refine xr_goto (tgt := 27) C dd_L_law_49.2.2.2.2.2.2.2.2.2.2.2.2.2.2.1 rfl ?_
            refine xr_lv (lv' := [(0, .ref b), (1, .ref q_1), (2, .ref q_29), (3, .ref q_53), (4, .int (s_58.1 + 4))]) [3, 4, 5, 6, 0] rfl ?_
            exact hk_58 (s_58.1 + 4, x_494.2.1, x_494.2.2.1, x_494.2.2.2.1, x_494.2.2.2.2.1, x_494.2.2.2.2.2, x_480.2.1, x_480.2.2.1, x_480.2.2.2, s_58.2.2.2.2.2.2.2.2.2.1 + 1, s_58.2.2.2.2.2.2.2.2.2.2 + 6) (Option.some.inj ho_58).symm q_498 q_499 q_485
          · replace ho_58 := yf_f c_502 ho_58
            refine xr_iconst (n := 1162) (v := 0) C dd_L_law_41.2.2.2.2.2.1 rfl rfl ?_
            have e_503 := hx_58 _ (Option.some.inj ho_58).symm
            subst e_503
            replace hR := ybr_r hR
            obtain rfl := Option.some.inj hR
            exact ret 0 rfl g_481.1 g_481.2 dd_L_law_41.2.2.2.2.2.2.1
      · replace ho_58 := yf_f c_500 ho_58
        refine xr_iconst (n := 1144) (v := 0) C dd_L_law_40.2.2.2.2.2.2.2.2.2.2.2.1 rfl rfl ?_
        have e_504 := hx_58 _ (Option.some.inj ho_58).symm
        subst e_504
        replace hR := ybr_r hR
        obtain rfl := Option.some.inj hR
        exact ret 0 rfl g_481.1 g_481.2 dd_L_law_40.2.2.2.2.2.2.2.2.2.2.2.2.1
    replace ho_58 := yf_f c_477 ho_58
    by_cases c_505 : ((xs s_58.1.toNatClampNeg) &&& 31) = 15
    · replace ho_58 := yf_t c_505 ho_58
      refine xr_tableIn (off := 1123) (tgt := 1166) C dL_law_43 (by rw [c_505]; decide) (by rw [c_505]; decide) (by rw [c_505]; decide) rfl ?_
      refine xr_aload_n (n := 1167) (j := 1) C dd_L_law_41.2.2.2.2.2.2.2.2.1 rfl rfl ?_
      refine xr_aload_n (n := 1168) (j := 0) C dd_L_law_41.2.2.2.2.2.2.2.2.2.1 rfl rfl ?_
      refine xr_iload (n := 1170) (j := 4) C dd_L_law_41.2.2.2.2.2.2.2.2.2.2.1 rfl rfl ?_
      refine xr_iconst (n := 1171) (v := 1) C dd_L_law_41.2.2.2.2.2.2.2.2.2.2.2.1 rfl rfl ?_
      refine xr_iadd (n := 1172) C dd_L_law_41.2.2.2.2.2.2.2.2.2.2.2.2.1 rfl ?_
      obtain ⟨g_506, ho_58⟩ := yf_g ho_58
      refine xr_sld (n := 1173) C hX hbl hbA g_506 dd_L_law_41.2.2.2.2.2.2.2.2.2.2.2.2.2.1 rfl ?_
      refine xr_aload_n (n := 1174) (j := 3) C dd_L_law_41.2.2.2.2.2.2.2.2.2.2.2.2.2.2.1 rfl rfl ?_
      obtain ⟨x_507, hx_507, ho_58⟩ := yf_b ho_58
      obtain ⟨g_508, ho_58⟩ := yf_g ho_58
      refine xr_callSW (n := 1177) (As := [.ref q_1, .int (xs (s_58.1 + 1).toNatClampNeg), .ref q_53]) (rest := []) C (kgL_row l D cy hl0 (x := q_1) (a := z_28) (o := q_53) (os := a2_58) (n := s_58.2.2.2.2.2.2.1) (t := s_58.2.2.2.2.2.2.2.1) (on := s_58.2.2.2.2.2.2.2.2.1) (i1 := xs (s_58.1 + 1).toNatClampNeg) hx_507) mL_row u_899 u_900 3 [1, 2] [0] rfl (by decide +kernel) rfl rfl rfl rfl (Nat.le_of_ble_eq_true rfl) (Nat.le_of_ble_eq_true rfl) (Nat.le_of_ble_eq_true rfl) g_508.1 g_508.2 dd_L_law_41.2.2.2.2.2.2.2.2.2.2.2.2.2.2.2.1 rfl (fun v_509 u_510 hp_511 => ?_)
      rcases hp_511 with ⟨w_515, ew_515, q_512, q_513, rfl, rfl⟩ | ⟨w_515, ew_515, q_514, rfl, rfl⟩
      · subst ew_515
        replace ho_58 := ybr_l ho_58
        refine xr_perm C 5 [4, 0, 1, 2, 3] [] [MW q_29 a0_58 a1_58 cy s_58.2.1 s_58.2.2.1 s_58.2.2.2.1 s_58.2.2.2.2.1 s_58.2.2.2.2.2.1, CW q_1 z_28 cy w_515.2.1 w_515.2.2.1, [(q_53, .inr (9, [.long w_515.2.2.2.1, .ref q_512]))], [(q_512, .inr (0, [.ref q_513, .int 0, .int 0, .int 0]))], [(q_513, .inl (cy 0, w_515.2.2.2.2.1, .inl w_515.2.2.2.2.2))]] rfl (by decide +kernel) rfl ?_
        refine xr_st (st' := [.int w_515.1]) rfl ?_
        refine xr_istore (n := 1179) C [(5, .int w_515.1), (0, .ref b), (1, .ref q_1), (2, .ref q_29), (3, .ref q_53), (4, .int s_58.1)] dd_L_law_42.1 (by decide) rfl rfl ?_
        refine xr_aload_n (n := 1180) (j := 3) C dd_L_law_42.2.1 rfl rfl ?_
        refine xr_aload_n (n := 1181) (j := 1) C dd_L_law_42.2.2.1 rfl rfl ?_
        refine xr_iload (n := 1183) (j := 5) C dd_L_law_42.2.2.2.1 rfl rfl ?_
        refine xr_iconst (n := 1184) (v := 1) C dd_L_law_42.2.2.2.2.1 rfl rfl ?_
        refine xr_iadd (n := 1185) C dd_L_law_42.2.2.2.2.2.1 rfl ?_
        obtain ⟨g_516, ho_58⟩ := yf_g ho_58
        refine xr_sld (n := 1186) C hX hbl hbA g_516 dd_L_law_42.2.2.2.2.2.2.1 rfl ?_
        obtain ⟨x_517, hx_517, ho_58⟩ := yf_b ho_58
        obtain ⟨g_518, ho_58⟩ := yf_g ho_58
        refine xr_callVP (n := 1189) (As := [.int (xs (s_58.1 + 1).toNatClampNeg)]) (rest := []) C (kgX9w_row l D cy (g := q_29) (a := a0_58) (ad := a1_58) (sh := s_58.2.1) (n := s_58.2.2.1) (L := s_58.2.2.2.1) (k := s_58.2.2.2.2.1) (G := s_58.2.2.2.2.2.1) (i1 := xs (s_58.1 + 1).toNatClampNeg) hx_517) mX9_row u_1547 u_1548 u_1549 0 rfl (MW_head _ _ _ _ _ _ _ _ _) rfl 5 [0] [1, 2, 3, 4] rfl (by decide +kernel) rfl rfl rfl rfl (Nat.le_of_ble_eq_true rfl) (Nat.le_of_ble_eq_true rfl) (Nat.le_of_ble_eq_true rfl) g_518.1 g_518.2 dd_L_law_42.2.2.2.2.2.2.2.1 rfl (fun v_519 u_520 hp_521 => ?_)
        rcases hp_521 with ⟨w_529, ew_529, q_522, q_523, q_524, q_525, rfl, rfl⟩ | ⟨w_529, ew_529, q_526, q_527, q_528, rfl, rfl⟩
        · subst ew_529
          replace ho_58 := ybr_l ho_58
          refine xr_perm C 7 [0, 3, 4, 5, 6, 1, 2] [] [MW q_29 q_522 q_523 cy w_529.1 w_529.2.1 w_529.2.2.1 w_529.2.2.2.1 w_529.2.2.2.2.1, CW q_1 z_28 cy w_515.2.1 w_515.2.2.1, [(q_53, .inr (9, [.long w_515.2.2.2.1, .ref q_512]))], [(q_512, .inr (0, [.ref q_513, .int 0, .int 0, .int 0]))], [(q_513, .inl (cy 0, w_515.2.2.2.2.1, .inl w_515.2.2.2.2.2))], [(q_524, .inr (0, [.ref q_525, .int 0, .int 0, .int 0]))], [(q_525, .inl (cy 0, w_529.2.2.2.2.2.1, .inl w_529.2.2.2.2.2.2))]] rfl (by decide +kernel) rfl ?_
          refine xr_st (st' := [.ref q_524]) rfl ?_
          refine xr_astore (n := 1191) C [(6, .ref q_524), (5, .int w_515.1), (0, .ref b), (1, .ref q_1), (2, .ref q_29), (3, .ref q_53), (4, .int s_58.1)] dd_L_law_42.2.2.2.2.2.2.2.2.1 (by decide) rfl rfl ?_
          refine xr_aload_n (n := 1192) (j := 4) C dd_L_law_42.2.2.2.2.2.2.2.2.2.1 rfl rfl ?_
          obtain ⟨x_530, hx_530, ho_58⟩ := yf_b ho_58
          refine xr_callVP (n := 1195) (As := []) (rest := []) C (kgX9w_thrown l D cy (g := q_29) (a := q_522) (ad := q_523) (sh := w_529.1) (n := w_529.2.1) (L := w_529.2.2.1) (k := w_529.2.2.2.1) (G := w_529.2.2.2.2.1) hx_530) mX9_thrown u_1290 u_1291 u_1292 0 rfl (MW_head _ _ _ _ _ _ _ _ _) rfl 7 [0] [1, 2, 3, 4, 5, 6] rfl (by decide +kernel) rfl rfl rfl rfl (Nat.le_of_ble_eq_true rfl) (Nat.le_of_ble_eq_true rfl) (Nat.le_of_ble_eq_true rfl) g_518.1 g_518.2 dd_L_law_42.2.2.2.2.2.2.2.2.2.2.1 rfl (fun v_531 u_532 hp_533 => ?_)
          obtain ⟨q_534, q_535, rfl, rfl⟩ := hp_533
          refine xr_perm C 7 [0, 1, 2, 3, 4, 5, 6] [] [MW q_29 q_534 q_535 cy x_530.2.1 x_530.2.2.1 x_530.2.2.2.1 x_530.2.2.2.2.1 x_530.2.2.2.2.2, CW q_1 z_28 cy w_515.2.1 w_515.2.2.1, [(q_53, .inr (9, [.long w_515.2.2.2.1, .ref q_512]))], [(q_512, .inr (0, [.ref q_513, .int 0, .int 0, .int 0]))], [(q_513, .inl (cy 0, w_515.2.2.2.2.1, .inl w_515.2.2.2.2.2))], [(q_524, .inr (0, [.ref q_525, .int 0, .int 0, .int 0]))], [(q_525, .inl (cy 0, w_529.2.2.2.2.2.1, .inl w_529.2.2.2.2.2.2))]] rfl (by decide +kernel) rfl ?_
          refine xr_st (st' := [.int x_530.1]) rfl ?_
          refine xr_iload (n := 1197) (j := 1) C dd_L_law_42.2.2.2.2.2.2.2.2.2.2.2.1 rfl rfl ?_
          refine xr_icmp_eq (tgt := 1202) (n := 1200) C dd_L_law_42.2.2.2.2.2.2.2.2.2.2.2.2.1 rfl rfl (fun c_536 => ?_) (fun c_536 => ?_)
          · replace ho_58 := yf_t c_536 ho_58
            refine xr_iload (n := 1204) (j := 1) C dd_L_law_42.2.2.2.2.2.2.2.2.2.2.2.2.2.2.2.1 rfl rfl ?_
            refine xr_if_ne (tgt := 1221) (n := 1207) C dd_L_law_43.1 rfl rfl (fun c_537 => ?_) (fun c_537 => ?_)
            · replace ho_58 := yf_f c_537 ho_58
              refine xr_goto (tgt := 1390) C dd_L_law_43.2.2.2.2.2.2.2.2.1 rfl ?_
              refine xr_iinc (j := 6) (v := s_58.1 + 4) (n := 1393) C [(4, .int (s_58.1 + 4)), (6, .ref q_524), (5, .int w_515.1), (0, .ref b), (1, .ref q_1), (2, .ref q_29), (3, .ref q_53)] dd_L_law_49.2.2.2.2.2.2.2.2.2.2.2.2.2.1 rfl rfl (by decide) rfl rfl ?_
              refine xr_goto (tgt := 27) C dd_L_law_49.2.2.2.2.2.2.2.2.2.2.2.2.2.2.1 rfl ?_
              refine xr_lv (lv' := [(0, .ref b), (1, .ref q_1), (2, .ref q_29), (3, .ref q_53), (4, .int (s_58.1 + 4))]) [3, 4, 5, 6, 0] rfl ?_
              refine xr_perm C 7 [0, 1, 2] [3, 4, 5, 6] [MW q_29 q_534 q_535 cy x_530.2.1 x_530.2.2.1 x_530.2.2.2.1 x_530.2.2.2.2.1 x_530.2.2.2.2.2, CW q_1 z_28 cy w_515.2.1 w_515.2.2.1, [(q_53, .inr (9, [.long w_515.2.2.2.1, .ref q_512]))]] rfl (by decide +kernel) rfl ?_
              exact hk_58 (s_58.1 + 4, x_530.2.1, x_530.2.2.1, x_530.2.2.2.1, x_530.2.2.2.2.1, x_530.2.2.2.2.2, w_515.2.1, w_515.2.2.1, w_515.2.2.2.1, s_58.2.2.2.2.2.2.2.2.2.1 + 4 + 4, s_58.2.2.2.2.2.2.2.2.2.2 + 40 + 40) (Option.some.inj ho_58).symm q_534 q_535 (.ref q_512)
            · replace ho_58 := yf_t c_537 ho_58
              refine xr_aload_n (n := 1208) (j := 5) C dd_L_law_43.2.1 rfl rfl ?_
              refine xr_getN (n := 1211) C 2 rfl rfl 1 (by decide) in_X7 RL (List.mem_of_getElem? (i := 47) rfl) rfl (v := .ref q_512) rfl dd_L_law_43.2.2.1 rfl ?_
              refine xr_aload (n := 1213) (j := 0) C dd_L_law_43.2.2.2.1 rfl rfl ?_
              obtain ⟨x_538, hx_538, ho_58⟩ := yf_b ho_58
              refine xr_callVp (n := 1216) (As := [.ref q_524]) (rest := []) C (kJ0_equals_9ea2d l D cy (a := q_512) (av := q_513) (af := w_515.2.2.2.2.2) (an := w_515.2.2.2.2.1) (b := q_524) (bv := q_525) (bf := w_529.2.2.2.2.2.2) (bn := w_529.2.2.2.2.2.1) hx_538) mJ0_equals_9ea2d u_1597 u_1598 u_1599 3 rfl rfl 7 [3, 4, 5, 6] [0, 1, 2] rfl (by decide +kernel) rfl rfl rfl rfl (Nat.le_of_ble_eq_true rfl) (Nat.le_of_ble_eq_true rfl) (Nat.le_of_ble_eq_true rfl) g_518.1 g_518.2 dd_L_law_43.2.2.2.2.1 rfl (fun _ _ hp => hp.2) (fun v_539 hp_541 => ?_)
              obtain ⟨rfl, -⟩ := hp_541
              refine xr_st (st' := [.int x_538]) rfl ?_
              refine xr_if_ne (tgt := 1221) (n := 1219) C dd_L_law_43.2.2.2.2.2.1 rfl rfl (fun c_542 => ?_) (fun c_542 => ?_)
              · replace ho_58 := yf_f c_542 ho_58
                refine xr_goto (tgt := 1390) C dd_L_law_43.2.2.2.2.2.2.2.2.1 rfl ?_
                refine xr_iinc (j := 6) (v := s_58.1 + 4) (n := 1393) C [(4, .int (s_58.1 + 4)), (6, .ref q_524), (5, .int w_515.1), (0, .ref b), (1, .ref q_1), (2, .ref q_29), (3, .ref q_53)] dd_L_law_49.2.2.2.2.2.2.2.2.2.2.2.2.2.1 rfl rfl (by decide) rfl rfl ?_
                refine xr_goto (tgt := 27) C dd_L_law_49.2.2.2.2.2.2.2.2.2.2.2.2.2.2.1 rfl ?_
                refine xr_lv (lv' := [(0, .ref b), (1, .ref q_1), (2, .ref q_29), (3, .ref q_53), (4, .int (s_58.1 + 4))]) [3, 4, 5, 6, 0] rfl ?_
                refine xr_perm C 7 [0, 1, 2] [3, 4, 5, 6] [MW q_29 q_534 q_535 cy x_530.2.1 x_530.2.2.1 x_530.2.2.2.1 x_530.2.2.2.2.1 x_530.2.2.2.2.2, CW q_1 z_28 cy w_515.2.1 w_515.2.2.1, [(q_53, .inr (9, [.long w_515.2.2.2.1, .ref q_512]))]] rfl (by decide +kernel) rfl ?_
                exact hk_58 (s_58.1 + 4, x_530.2.1, x_530.2.2.1, x_530.2.2.2.1, x_530.2.2.2.2.1, x_530.2.2.2.2.2, w_515.2.1, w_515.2.2.1, w_515.2.2.2.1, s_58.2.2.2.2.2.2.2.2.2.1 + 4 + 4, s_58.2.2.2.2.2.2.2.2.2.2 + 40 + 40) (Option.some.inj ho_58).symm q_534 q_535 (.ref q_512)
              · replace ho_58 := yf_t c_542 ho_58
                refine xr_iconst (n := 1220) (v := 0) C dd_L_law_43.2.2.2.2.2.2.1 rfl rfl ?_
                have e_543 := hx_58 _ (Option.some.inj ho_58).symm
                subst e_543
                replace hR := ybr_r hR
                obtain rfl := Option.some.inj hR
                exact ret 0 rfl g_518.1 g_518.2 dd_L_law_43.2.2.2.2.2.2.2.1
          · replace ho_58 := yf_f c_536 ho_58
            refine xr_iconst (n := 1201) (v := 0) C dd_L_law_42.2.2.2.2.2.2.2.2.2.2.2.2.2.1 rfl rfl ?_
            have e_544 := hx_58 _ (Option.some.inj ho_58).symm
            subst e_544
            replace hR := ybr_r hR
            obtain rfl := Option.some.inj hR
            exact ret 0 rfl g_518.1 g_518.2 dd_L_law_42.2.2.2.2.2.2.2.2.2.2.2.2.2.2.1
        · subst ew_529
          replace ho_58 := ybr_r ho_58
          refine xr_perm C 5 [0, 1, 2, 3, 4] [] [MW q_29 q_526 q_527 cy w_529.1 w_529.2.1 w_529.2.2.1 w_529.2.2.2.1 w_529.2.2.2.2, CW q_1 z_28 cy w_515.2.1 w_515.2.2.1, [(q_53, .inr (9, [.long w_515.2.2.2.1, .ref q_512]))], [(q_512, .inr (0, [.ref q_513, .int 0, .int 0, .int 0]))], [(q_513, .inl (cy 0, w_515.2.2.2.2.1, .inl w_515.2.2.2.2.2))]] rfl (by decide +kernel) rfl ?_
          refine xr_st (st' := [.ref q_528]) rfl ?_
          refine xr_astore (n := 1191) C [(6, .ref q_528), (5, .int w_515.1), (0, .ref b), (1, .ref q_1), (2, .ref q_29), (3, .ref q_53), (4, .int s_58.1)] dd_L_law_42.2.2.2.2.2.2.2.2.1 (by decide) rfl rfl ?_
          refine xr_aload_n (n := 1192) (j := 4) C dd_L_law_42.2.2.2.2.2.2.2.2.2.1 rfl rfl ?_
          obtain ⟨x_545, hx_545, ho_58⟩ := yf_b ho_58
          refine xr_callVP (n := 1195) (As := []) (rest := []) C (kgX9w_thrown l D cy (g := q_29) (a := q_526) (ad := q_527) (sh := w_529.1) (n := w_529.2.1) (L := w_529.2.2.1) (k := w_529.2.2.2.1) (G := w_529.2.2.2.2) hx_545) mX9_thrown u_1290 u_1291 u_1292 0 rfl (MW_head _ _ _ _ _ _ _ _ _) rfl 5 [0] [1, 2, 3, 4] rfl (by decide +kernel) rfl rfl rfl rfl (Nat.le_of_ble_eq_true rfl) (Nat.le_of_ble_eq_true rfl) (Nat.le_of_ble_eq_true rfl) g_518.1 g_518.2 dd_L_law_42.2.2.2.2.2.2.2.2.2.2.1 rfl (fun v_546 u_547 hp_548 => ?_)
          obtain ⟨q_549, q_550, rfl, rfl⟩ := hp_548
          refine xr_perm C 5 [0, 1, 2, 3, 4] [] [MW q_29 q_549 q_550 cy x_545.2.1 x_545.2.2.1 x_545.2.2.2.1 x_545.2.2.2.2.1 x_545.2.2.2.2.2, CW q_1 z_28 cy w_515.2.1 w_515.2.2.1, [(q_53, .inr (9, [.long w_515.2.2.2.1, .ref q_512]))], [(q_512, .inr (0, [.ref q_513, .int 0, .int 0, .int 0]))], [(q_513, .inl (cy 0, w_515.2.2.2.2.1, .inl w_515.2.2.2.2.2))]] rfl (by decide +kernel) rfl ?_
          refine xr_st (st' := [.int x_545.1]) rfl ?_
          refine xr_iload (n := 1197) (j := 1) C dd_L_law_42.2.2.2.2.2.2.2.2.2.2.2.1 rfl rfl ?_
          refine xr_icmp_eq (tgt := 1202) (n := 1200) C dd_L_law_42.2.2.2.2.2.2.2.2.2.2.2.2.1 rfl rfl (fun c_551 => ?_) (fun c_551 => ?_)
          · replace ho_58 := yf_t c_551 ho_58
            refine xr_iload (n := 1204) (j := 1) C dd_L_law_42.2.2.2.2.2.2.2.2.2.2.2.2.2.2.2.1 rfl rfl ?_
            refine xr_if_ne (tgt := 1221) (n := 1207) C dd_L_law_43.1 rfl rfl (fun c_552 => ?_) (fun c_552 => ?_)
            · replace ho_58 := yf_f c_552 ho_58
              refine xr_goto (tgt := 1390) C dd_L_law_43.2.2.2.2.2.2.2.2.1 rfl ?_
              refine xr_iinc (j := 6) (v := s_58.1 + 4) (n := 1393) C [(4, .int (s_58.1 + 4)), (6, .ref q_528), (5, .int w_515.1), (0, .ref b), (1, .ref q_1), (2, .ref q_29), (3, .ref q_53)] dd_L_law_49.2.2.2.2.2.2.2.2.2.2.2.2.2.1 rfl rfl (by decide) rfl rfl ?_
              refine xr_goto (tgt := 27) C dd_L_law_49.2.2.2.2.2.2.2.2.2.2.2.2.2.2.1 rfl ?_
              refine xr_lv (lv' := [(0, .ref b), (1, .ref q_1), (2, .ref q_29), (3, .ref q_53), (4, .int (s_58.1 + 4))]) [3, 4, 5, 6, 0] rfl ?_
              refine xr_perm C 5 [0, 1, 2] [3, 4] [MW q_29 q_549 q_550 cy x_545.2.1 x_545.2.2.1 x_545.2.2.2.1 x_545.2.2.2.2.1 x_545.2.2.2.2.2, CW q_1 z_28 cy w_515.2.1 w_515.2.2.1, [(q_53, .inr (9, [.long w_515.2.2.2.1, .ref q_512]))]] rfl (by decide +kernel) rfl ?_
              exact hk_58 (s_58.1 + 4, x_545.2.1, x_545.2.2.1, x_545.2.2.2.1, x_545.2.2.2.2.1, x_545.2.2.2.2.2, w_515.2.1, w_515.2.2.1, w_515.2.2.2.1, s_58.2.2.2.2.2.2.2.2.2.1 + 4 + 4, s_58.2.2.2.2.2.2.2.2.2.2 + 40 + 40) (Option.some.inj ho_58).symm q_549 q_550 (.ref q_512)
            · replace ho_58 := yf_t c_552 ho_58
              refine xr_aload_n (n := 1208) (j := 5) C dd_L_law_43.2.1 rfl rfl ?_
              refine xr_getN (n := 1211) C 2 rfl rfl 1 (by decide) in_X7 RL (List.mem_of_getElem? (i := 47) rfl) rfl (v := .ref q_512) rfl dd_L_law_43.2.2.1 rfl ?_
              refine xr_aload (n := 1213) (j := 0) C dd_L_law_43.2.2.2.1 rfl rfl ?_
              cases ho_58
          · replace ho_58 := yf_f c_551 ho_58
            refine xr_iconst (n := 1201) (v := 0) C dd_L_law_42.2.2.2.2.2.2.2.2.2.2.2.2.2.1 rfl rfl ?_
            have e_553 := hx_58 _ (Option.some.inj ho_58).symm
            subst e_553
            replace hR := ybr_r hR
            obtain rfl := Option.some.inj hR
            exact ret 0 rfl g_518.1 g_518.2 dd_L_law_42.2.2.2.2.2.2.2.2.2.2.2.2.2.2.1
      · subst ew_515
        replace ho_58 := ybr_r ho_58
        refine xr_perm C 3 [2, 0, 1] [] [MW q_29 a0_58 a1_58 cy s_58.2.1 s_58.2.2.1 s_58.2.2.2.1 s_58.2.2.2.2.1 s_58.2.2.2.2.2.1, CW q_1 z_28 cy w_515.2.1 w_515.2.2.1, [(q_53, .inr (9, [.long w_515.2.2.2, q_514]))]] rfl (by decide +kernel) rfl ?_
        refine xr_st (st' := [.int w_515.1]) rfl ?_
        refine xr_istore (n := 1179) C [(5, .int w_515.1), (0, .ref b), (1, .ref q_1), (2, .ref q_29), (3, .ref q_53), (4, .int s_58.1)] dd_L_law_42.1 (by decide) rfl rfl ?_
        refine xr_aload_n (n := 1180) (j := 3) C dd_L_law_42.2.1 rfl rfl ?_
        refine xr_aload_n (n := 1181) (j := 1) C dd_L_law_42.2.2.1 rfl rfl ?_
        refine xr_iload (n := 1183) (j := 5) C dd_L_law_42.2.2.2.1 rfl rfl ?_
        refine xr_iconst (n := 1184) (v := 1) C dd_L_law_42.2.2.2.2.1 rfl rfl ?_
        refine xr_iadd (n := 1185) C dd_L_law_42.2.2.2.2.2.1 rfl ?_
        obtain ⟨g_554, ho_58⟩ := yf_g ho_58
        refine xr_sld (n := 1186) C hX hbl hbA g_554 dd_L_law_42.2.2.2.2.2.2.1 rfl ?_
        obtain ⟨x_555, hx_555, ho_58⟩ := yf_b ho_58
        obtain ⟨g_556, ho_58⟩ := yf_g ho_58
        refine xr_callVP (n := 1189) (As := [.int (xs (s_58.1 + 1).toNatClampNeg)]) (rest := []) C (kgX9w_row l D cy (g := q_29) (a := a0_58) (ad := a1_58) (sh := s_58.2.1) (n := s_58.2.2.1) (L := s_58.2.2.2.1) (k := s_58.2.2.2.2.1) (G := s_58.2.2.2.2.2.1) (i1 := xs (s_58.1 + 1).toNatClampNeg) hx_555) mX9_row u_1547 u_1548 u_1549 0 rfl (MW_head _ _ _ _ _ _ _ _ _) rfl 3 [0] [1, 2] rfl (by decide +kernel) rfl rfl rfl rfl (Nat.le_of_ble_eq_true rfl) (Nat.le_of_ble_eq_true rfl) (Nat.le_of_ble_eq_true rfl) g_556.1 g_556.2 dd_L_law_42.2.2.2.2.2.2.2.1 rfl (fun v_557 u_558 hp_559 => ?_)
        rcases hp_559 with ⟨w_567, ew_567, q_560, q_561, q_562, q_563, rfl, rfl⟩ | ⟨w_567, ew_567, q_564, q_565, q_566, rfl, rfl⟩
        · subst ew_567
          replace ho_58 := ybr_l ho_58
          refine xr_perm C 5 [0, 3, 4, 1, 2] [] [MW q_29 q_560 q_561 cy w_567.1 w_567.2.1 w_567.2.2.1 w_567.2.2.2.1 w_567.2.2.2.2.1, CW q_1 z_28 cy w_515.2.1 w_515.2.2.1, [(q_53, .inr (9, [.long w_515.2.2.2, q_514]))], [(q_562, .inr (0, [.ref q_563, .int 0, .int 0, .int 0]))], [(q_563, .inl (cy 0, w_567.2.2.2.2.2.1, .inl w_567.2.2.2.2.2.2))]] rfl (by decide +kernel) rfl ?_
          refine xr_st (st' := [.ref q_562]) rfl ?_
          refine xr_astore (n := 1191) C [(6, .ref q_562), (5, .int w_515.1), (0, .ref b), (1, .ref q_1), (2, .ref q_29), (3, .ref q_53), (4, .int s_58.1)] dd_L_law_42.2.2.2.2.2.2.2.2.1 (by decide) rfl rfl ?_
          refine xr_aload_n (n := 1192) (j := 4) C dd_L_law_42.2.2.2.2.2.2.2.2.2.1 rfl rfl ?_
          obtain ⟨x_568, hx_568, ho_58⟩ := yf_b ho_58
          refine xr_callVP (n := 1195) (As := []) (rest := []) C (kgX9w_thrown l D cy (g := q_29) (a := q_560) (ad := q_561) (sh := w_567.1) (n := w_567.2.1) (L := w_567.2.2.1) (k := w_567.2.2.2.1) (G := w_567.2.2.2.2.1) hx_568) mX9_thrown u_1290 u_1291 u_1292 0 rfl (MW_head _ _ _ _ _ _ _ _ _) rfl 5 [0] [1, 2, 3, 4] rfl (by decide +kernel) rfl rfl rfl rfl (Nat.le_of_ble_eq_true rfl) (Nat.le_of_ble_eq_true rfl) (Nat.le_of_ble_eq_true rfl) g_556.1 g_556.2 dd_L_law_42.2.2.2.2.2.2.2.2.2.2.1 rfl (fun v_569 u_570 hp_571 => ?_)
          obtain ⟨q_572, q_573, rfl, rfl⟩ := hp_571
          refine xr_perm C 5 [0, 1, 2, 3, 4] [] [MW q_29 q_572 q_573 cy x_568.2.1 x_568.2.2.1 x_568.2.2.2.1 x_568.2.2.2.2.1 x_568.2.2.2.2.2, CW q_1 z_28 cy w_515.2.1 w_515.2.2.1, [(q_53, .inr (9, [.long w_515.2.2.2, q_514]))], [(q_562, .inr (0, [.ref q_563, .int 0, .int 0, .int 0]))], [(q_563, .inl (cy 0, w_567.2.2.2.2.2.1, .inl w_567.2.2.2.2.2.2))]] rfl (by decide +kernel) rfl ?_
          refine xr_st (st' := [.int x_568.1]) rfl ?_
          refine xr_iload (n := 1197) (j := 1) C dd_L_law_42.2.2.2.2.2.2.2.2.2.2.2.1 rfl rfl ?_
          refine xr_icmp_eq (tgt := 1202) (n := 1200) C dd_L_law_42.2.2.2.2.2.2.2.2.2.2.2.2.1 rfl rfl (fun c_574 => ?_) (fun c_574 => ?_)
          · replace ho_58 := yf_t c_574 ho_58
            refine xr_iload (n := 1204) (j := 1) C dd_L_law_42.2.2.2.2.2.2.2.2.2.2.2.2.2.2.2.1 rfl rfl ?_
            refine xr_if_ne (tgt := 1221) (n := 1207) C dd_L_law_43.1 rfl rfl (fun c_575 => ?_) (fun c_575 => ?_)
            · replace ho_58 := yf_f c_575 ho_58
              refine xr_goto (tgt := 1390) C dd_L_law_43.2.2.2.2.2.2.2.2.1 rfl ?_
              refine xr_iinc (j := 6) (v := s_58.1 + 4) (n := 1393) C [(4, .int (s_58.1 + 4)), (6, .ref q_562), (5, .int w_515.1), (0, .ref b), (1, .ref q_1), (2, .ref q_29), (3, .ref q_53)] dd_L_law_49.2.2.2.2.2.2.2.2.2.2.2.2.2.1 rfl rfl (by decide) rfl rfl ?_
              refine xr_goto (tgt := 27) C dd_L_law_49.2.2.2.2.2.2.2.2.2.2.2.2.2.2.1 rfl ?_
              refine xr_lv (lv' := [(0, .ref b), (1, .ref q_1), (2, .ref q_29), (3, .ref q_53), (4, .int (s_58.1 + 4))]) [3, 4, 5, 6, 0] rfl ?_
              refine xr_perm C 5 [0, 1, 2] [3, 4] [MW q_29 q_572 q_573 cy x_568.2.1 x_568.2.2.1 x_568.2.2.2.1 x_568.2.2.2.2.1 x_568.2.2.2.2.2, CW q_1 z_28 cy w_515.2.1 w_515.2.2.1, [(q_53, .inr (9, [.long w_515.2.2.2, q_514]))]] rfl (by decide +kernel) rfl ?_
              exact hk_58 (s_58.1 + 4, x_568.2.1, x_568.2.2.1, x_568.2.2.2.1, x_568.2.2.2.2.1, x_568.2.2.2.2.2, w_515.2.1, w_515.2.2.1, w_515.2.2.2, s_58.2.2.2.2.2.2.2.2.2.1 + 4 + 4, s_58.2.2.2.2.2.2.2.2.2.2 + 40 + 40) (Option.some.inj ho_58).symm q_572 q_573 q_514
            · replace ho_58 := yf_t c_575 ho_58
              refine xr_aload_n (n := 1208) (j := 5) C dd_L_law_43.2.1 rfl rfl ?_
              refine xr_getN (n := 1211) C 2 rfl rfl 1 (by decide) in_X7 RL (List.mem_of_getElem? (i := 47) rfl) rfl (v := q_514) rfl dd_L_law_43.2.2.1 rfl ?_
              refine xr_aload (n := 1213) (j := 0) C dd_L_law_43.2.2.2.1 rfl rfl ?_
              cases ho_58
          · replace ho_58 := yf_f c_574 ho_58
            refine xr_iconst (n := 1201) (v := 0) C dd_L_law_42.2.2.2.2.2.2.2.2.2.2.2.2.2.1 rfl rfl ?_
            have e_576 := hx_58 _ (Option.some.inj ho_58).symm
            subst e_576
            replace hR := ybr_r hR
            obtain rfl := Option.some.inj hR
            exact ret 0 rfl g_556.1 g_556.2 dd_L_law_42.2.2.2.2.2.2.2.2.2.2.2.2.2.2.1
        · subst ew_567
          replace ho_58 := ybr_r ho_58
          refine xr_perm C 3 [0, 1, 2] [] [MW q_29 q_564 q_565 cy w_567.1 w_567.2.1 w_567.2.2.1 w_567.2.2.2.1 w_567.2.2.2.2, CW q_1 z_28 cy w_515.2.1 w_515.2.2.1, [(q_53, .inr (9, [.long w_515.2.2.2, q_514]))]] rfl (by decide +kernel) rfl ?_
          refine xr_st (st' := [.ref q_566]) rfl ?_
          refine xr_astore (n := 1191) C [(6, .ref q_566), (5, .int w_515.1), (0, .ref b), (1, .ref q_1), (2, .ref q_29), (3, .ref q_53), (4, .int s_58.1)] dd_L_law_42.2.2.2.2.2.2.2.2.1 (by decide) rfl rfl ?_
          refine xr_aload_n (n := 1192) (j := 4) C dd_L_law_42.2.2.2.2.2.2.2.2.2.1 rfl rfl ?_
          obtain ⟨x_577, hx_577, ho_58⟩ := yf_b ho_58
          refine xr_callVP (n := 1195) (As := []) (rest := []) C (kgX9w_thrown l D cy (g := q_29) (a := q_564) (ad := q_565) (sh := w_567.1) (n := w_567.2.1) (L := w_567.2.2.1) (k := w_567.2.2.2.1) (G := w_567.2.2.2.2) hx_577) mX9_thrown u_1290 u_1291 u_1292 0 rfl (MW_head _ _ _ _ _ _ _ _ _) rfl 3 [0] [1, 2] rfl (by decide +kernel) rfl rfl rfl rfl (Nat.le_of_ble_eq_true rfl) (Nat.le_of_ble_eq_true rfl) (Nat.le_of_ble_eq_true rfl) g_556.1 g_556.2 dd_L_law_42.2.2.2.2.2.2.2.2.2.2.1 rfl (fun v_578 u_579 hp_580 => ?_)
          obtain ⟨q_581, q_582, rfl, rfl⟩ := hp_580
          refine xr_perm C 3 [0, 1, 2] [] [MW q_29 q_581 q_582 cy x_577.2.1 x_577.2.2.1 x_577.2.2.2.1 x_577.2.2.2.2.1 x_577.2.2.2.2.2, CW q_1 z_28 cy w_515.2.1 w_515.2.2.1, [(q_53, .inr (9, [.long w_515.2.2.2, q_514]))]] rfl (by decide +kernel) rfl ?_
          refine xr_st (st' := [.int x_577.1]) rfl ?_
          refine xr_iload (n := 1197) (j := 1) C dd_L_law_42.2.2.2.2.2.2.2.2.2.2.2.1 rfl rfl ?_
          refine xr_icmp_eq (tgt := 1202) (n := 1200) C dd_L_law_42.2.2.2.2.2.2.2.2.2.2.2.2.1 rfl rfl (fun c_583 => ?_) (fun c_583 => ?_)
          · replace ho_58 := yf_t c_583 ho_58
            refine xr_iload (n := 1204) (j := 1) C dd_L_law_42.2.2.2.2.2.2.2.2.2.2.2.2.2.2.2.1 rfl rfl ?_
            refine xr_if_ne (tgt := 1221) (n := 1207) C dd_L_law_43.1 rfl rfl (fun c_584 => ?_) (fun c_584 => ?_)
            · replace ho_58 := yf_f c_584 ho_58
              refine xr_goto (tgt := 1390) C dd_L_law_43.2.2.2.2.2.2.2.2.1 rfl ?_
              refine xr_iinc (j := 6) (v := s_58.1 + 4) (n := 1393) C [(4, .int (s_58.1 + 4)), (6, .ref q_566), (5, .int w_515.1), (0, .ref b), (1, .ref q_1), (2, .ref q_29), (3, .ref q_53)] dd_L_law_49.2.2.2.2.2.2.2.2.2.2.2.2.2.1 rfl rfl (by decide) rfl rfl ?_
              refine xr_goto (tgt := 27) C dd_L_law_49.2.2.2.2.2.2.2.2.2.2.2.2.2.2.1 rfl ?_
              refine xr_lv (lv' := [(0, .ref b), (1, .ref q_1), (2, .ref q_29), (3, .ref q_53), (4, .int (s_58.1 + 4))]) [3, 4, 5, 6, 0] rfl ?_
              exact hk_58 (s_58.1 + 4, x_577.2.1, x_577.2.2.1, x_577.2.2.2.1, x_577.2.2.2.2.1, x_577.2.2.2.2.2, w_515.2.1, w_515.2.2.1, w_515.2.2.2, s_58.2.2.2.2.2.2.2.2.2.1 + 4 + 4, s_58.2.2.2.2.2.2.2.2.2.2 + 40 + 40) (Option.some.inj ho_58).symm q_581 q_582 q_514
            · replace ho_58 := yf_t c_584 ho_58
              refine xr_aload_n (n := 1208) (j := 5) C dd_L_law_43.2.1 rfl rfl ?_
              refine xr_getN (n := 1211) C 2 rfl rfl 1 (by decide) in_X7 RL (List.mem_of_getElem? (i := 47) rfl) rfl (v := q_514) rfl dd_L_law_43.2.2.1 rfl ?_
              refine xr_aload (n := 1213) (j := 0) C dd_L_law_43.2.2.2.1 rfl rfl ?_
              cases ho_58
          · replace ho_58 := yf_f c_583 ho_58
            refine xr_iconst (n := 1201) (v := 0) C dd_L_law_42.2.2.2.2.2.2.2.2.2.2.2.2.2.1 rfl rfl ?_
            have e_585 := hx_58 _ (Option.some.inj ho_58).symm
            subst e_585
            replace hR := ybr_r hR
            obtain rfl := Option.some.inj hR
            exact ret 0 rfl g_556.1 g_556.2 dd_L_law_42.2.2.2.2.2.2.2.2.2.2.2.2.2.2.1
    replace ho_58 := yf_f c_505 ho_58
    by_cases c_586 : ((xs s_58.1.toNatClampNeg) &&& 31) = 16
    · replace ho_58 := yf_t c_586 ho_58
      refine xr_tableIn (off := 1181) (tgt := 1224) C dL_law_43 (by rw [c_586]; decide) (by rw [c_586]; decide) (by rw [c_586]; decide) rfl ?_
      refine xr_aload_n (n := 1225) (j := 1) C dd_L_law_43.2.2.2.2.2.2.2.2.2.1 rfl rfl ?_
      refine xr_aload_n (n := 1226) (j := 0) C dd_L_law_43.2.2.2.2.2.2.2.2.2.2.1 rfl rfl ?_
      refine xr_iload (n := 1228) (j := 4) C dd_L_law_43.2.2.2.2.2.2.2.2.2.2.2.1 rfl rfl ?_
      refine xr_iconst (n := 1229) (v := 1) C dd_L_law_43.2.2.2.2.2.2.2.2.2.2.2.2.1 rfl rfl ?_
      refine xr_iadd (n := 1230) C dd_L_law_43.2.2.2.2.2.2.2.2.2.2.2.2.2.1 rfl ?_
      obtain ⟨g_587, ho_58⟩ := yf_g ho_58
      refine xr_sld (n := 1231) C hX hbl hbA g_587 dd_L_law_43.2.2.2.2.2.2.2.2.2.2.2.2.2.2.1 rfl ?_
      refine xr_aload_n (n := 1232) (j := 0) C dd_L_law_43.2.2.2.2.2.2.2.2.2.2.2.2.2.2.2.1 rfl rfl ?_
      refine xr_iload (n := 1234) (j := 4) C dd_L_law_44.1 rfl rfl ?_
      refine xr_iconst (n := 1235) (v := 2) C dd_L_law_44.2.1 rfl rfl ?_
      refine xr_iadd (n := 1236) C dd_L_law_44.2.2.1 rfl ?_
      obtain ⟨g_588, ho_58⟩ := yf_g ho_58
      refine xr_sld (n := 1237) C hX hbl hbA g_588 dd_L_law_44.2.2.2.1 rfl ?_
      refine xr_aload_n (n := 1238) (j := 3) C dd_L_law_44.2.2.2.2.1 rfl rfl ?_
      obtain ⟨x_589, hx_589, ho_58⟩ := yf_b ho_58
      obtain ⟨g_590, ho_58⟩ := yf_g ho_58
      refine xr_callSW (n := 1241) (As := [.ref q_1, .int (xs (s_58.1 + 1).toNatClampNeg), .int (xs (s_58.1 + 2).toNatClampNeg), .ref q_53]) (rest := []) C (kgL_beats l D cy hl0 (x := q_1) (a := z_28) (o := q_53) (os := a2_58) (n := s_58.2.2.2.2.2.2.1) (t := s_58.2.2.2.2.2.2.2.1) (on := s_58.2.2.2.2.2.2.2.2.1) (i1 := xs (s_58.1 + 1).toNatClampNeg) (i2 := xs (s_58.1 + 2).toNatClampNeg) hx_589) mL_beats u_1172 u_1173 3 [1, 2] [0] rfl (by decide +kernel) rfl rfl rfl rfl (Nat.le_of_ble_eq_true rfl) (Nat.le_of_ble_eq_true rfl) (Nat.le_of_ble_eq_true rfl) g_590.1 g_590.2 dd_L_law_44.2.2.2.2.2.1 rfl (fun v_591 u_592 hp_593 => ?_)
      obtain ⟨q_594, rfl, rfl⟩ := hp_593
      refine xr_perm C 3 [2, 0, 1] [] [MW q_29 a0_58 a1_58 cy s_58.2.1 s_58.2.2.1 s_58.2.2.2.1 s_58.2.2.2.2.1 s_58.2.2.2.2.2.1, CW q_1 z_28 cy x_589.2.1 x_589.2.2.1, [(q_53, .inr (9, [.long x_589.2.2.2, q_594]))]] rfl (by decide +kernel) rfl ?_
      refine xr_st (st' := [.int x_589.1]) rfl ?_
      refine xr_istore (n := 1243) C [(5, .int x_589.1), (0, .ref b), (1, .ref q_1), (2, .ref q_29), (3, .ref q_53), (4, .int s_58.1)] dd_L_law_44.2.2.2.2.2.2.1 (by decide) rfl rfl ?_
      refine xr_aload_n (n := 1244) (j := 3) C dd_L_law_44.2.2.2.2.2.2.2.1 rfl rfl ?_
      refine xr_aload_n (n := 1245) (j := 1) C dd_L_law_44.2.2.2.2.2.2.2.2.1 rfl rfl ?_
      refine xr_iload (n := 1247) (j := 5) C dd_L_law_44.2.2.2.2.2.2.2.2.2.1 rfl rfl ?_
      refine xr_iconst (n := 1248) (v := 1) C dd_L_law_44.2.2.2.2.2.2.2.2.2.2.1 rfl rfl ?_
      refine xr_iadd (n := 1249) C dd_L_law_44.2.2.2.2.2.2.2.2.2.2.2.1 rfl ?_
      obtain ⟨g_595, ho_58⟩ := yf_g ho_58
      refine xr_sld (n := 1250) C hX hbl hbA g_595 dd_L_law_44.2.2.2.2.2.2.2.2.2.2.2.2.1 rfl ?_
      refine xr_aload_n (n := 1251) (j := 1) C dd_L_law_44.2.2.2.2.2.2.2.2.2.2.2.2.2.1 rfl rfl ?_
      refine xr_iload (n := 1253) (j := 5) C dd_L_law_44.2.2.2.2.2.2.2.2.2.2.2.2.2.2.1 rfl rfl ?_
      refine xr_iconst (n := 1254) (v := 2) C dd_L_law_44.2.2.2.2.2.2.2.2.2.2.2.2.2.2.2.1 rfl rfl ?_
      refine xr_iadd (n := 1255) C dd_L_law_45.1 rfl ?_
      obtain ⟨g_596, ho_58⟩ := yf_g ho_58
      refine xr_sld (n := 1256) C hX hbl hbA g_596 dd_L_law_45.2.1 rfl ?_
      obtain ⟨x_597, hx_597, ho_58⟩ := yf_b ho_58
      refine xr_callVP (n := 1259) (As := [.int (xs (s_58.1 + 1).toNatClampNeg), .int (xs (s_58.1 + 2).toNatClampNeg)]) (rest := []) C (kgX9w_beats l D cy (g := q_29) (a := a0_58) (ad := a1_58) (sh := s_58.2.1) (n := s_58.2.2.1) (L := s_58.2.2.2.1) (k := s_58.2.2.2.2.1) (G := s_58.2.2.2.2.2.1) (i1 := xs (s_58.1 + 1).toNatClampNeg) (i2 := xs (s_58.1 + 2).toNatClampNeg) hx_597) mX9_beats u_1556 u_1557 u_1558 0 rfl (MW_head _ _ _ _ _ _ _ _ _) rfl 3 [0] [1, 2] rfl (by decide +kernel) rfl rfl rfl rfl (Nat.le_of_ble_eq_true rfl) (Nat.le_of_ble_eq_true rfl) (Nat.le_of_ble_eq_true rfl) g_590.1 g_590.2 dd_L_law_45.2.2.1 rfl (fun v_598 u_599 hp_600 => ?_)
      obtain ⟨q_601, q_602, rfl, rfl⟩ := hp_600
      refine xr_perm C 3 [0, 1, 2] [] [MW q_29 q_601 q_602 cy x_597.2.1 x_597.2.2.1 x_597.2.2.2.1 x_597.2.2.2.2.1 x_597.2.2.2.2.2, CW q_1 z_28 cy x_589.2.1 x_589.2.2.1, [(q_53, .inr (9, [.long x_589.2.2.2, q_594]))]] rfl (by decide +kernel) rfl ?_
      refine xr_st (st' := [.int x_597.1]) rfl ?_
      refine xr_istore (n := 1261) C [(6, .int x_597.1), (5, .int x_589.1), (0, .ref b), (1, .ref q_1), (2, .ref q_29), (3, .ref q_53), (4, .int s_58.1)] dd_L_law_45.2.2.2.1 (by decide) rfl rfl ?_
      refine xr_aload_n (n := 1262) (j := 4) C dd_L_law_45.2.2.2.2.1 rfl rfl ?_
      obtain ⟨x_603, hx_603, ho_58⟩ := yf_b ho_58
      refine xr_callVP (n := 1265) (As := []) (rest := []) C (kgX9w_thrown l D cy (g := q_29) (a := q_601) (ad := q_602) (sh := x_597.2.1) (n := x_597.2.2.1) (L := x_597.2.2.2.1) (k := x_597.2.2.2.2.1) (G := x_597.2.2.2.2.2) hx_603) mX9_thrown u_1290 u_1291 u_1292 0 rfl (MW_head _ _ _ _ _ _ _ _ _) rfl 3 [0] [1, 2] rfl (by decide +kernel) rfl rfl rfl rfl (Nat.le_of_ble_eq_true rfl) (Nat.le_of_ble_eq_true rfl) (Nat.le_of_ble_eq_true rfl) g_590.1 g_590.2 dd_L_law_45.2.2.2.2.2.1 rfl (fun v_604 u_605 hp_606 => ?_)
      obtain ⟨q_607, q_608, rfl, rfl⟩ := hp_606
      refine xr_perm C 3 [0, 1, 2] [] [MW q_29 q_607 q_608 cy x_603.2.1 x_603.2.2.1 x_603.2.2.2.1 x_603.2.2.2.2.1 x_603.2.2.2.2.2, CW q_1 z_28 cy x_589.2.1 x_589.2.2.1, [(q_53, .inr (9, [.long x_589.2.2.2, q_594]))]] rfl (by decide +kernel) rfl ?_
      refine xr_st (st' := [.int x_603.1]) rfl ?_
      refine xr_iload (n := 1267) (j := 1) C dd_L_law_45.2.2.2.2.2.2.1 rfl rfl ?_
      refine xr_icmp_eq (tgt := 1272) (n := 1270) C dd_L_law_45.2.2.2.2.2.2.2.1 rfl rfl (fun c_609 => ?_) (fun c_609 => ?_)
      · replace ho_58 := yf_t c_609 ho_58
        refine xr_iload (n := 1274) (j := 1) C dd_L_law_45.2.2.2.2.2.2.2.2.2.2.1 rfl rfl ?_
        refine xr_if_ne (tgt := 1290) (n := 1277) C dd_L_law_45.2.2.2.2.2.2.2.2.2.2.2.1 rfl rfl (fun c_610 => ?_) (fun c_610 => ?_)
        · replace ho_58 := yf_f c_610 ho_58
          refine xr_goto (tgt := 1390) C dd_L_law_46.2.2.2.2.1 rfl ?_
          refine xr_iinc (j := 6) (v := s_58.1 + 4) (n := 1393) C [(4, .int (s_58.1 + 4)), (6, .int x_597.1), (5, .int x_589.1), (0, .ref b), (1, .ref q_1), (2, .ref q_29), (3, .ref q_53)] dd_L_law_49.2.2.2.2.2.2.2.2.2.2.2.2.2.1 rfl rfl (by decide) rfl rfl ?_
          refine xr_goto (tgt := 27) C dd_L_law_49.2.2.2.2.2.2.2.2.2.2.2.2.2.2.1 rfl ?_
          refine xr_lv (lv' := [(0, .ref b), (1, .ref q_1), (2, .ref q_29), (3, .ref q_53), (4, .int (s_58.1 + 4))]) [3, 4, 5, 6, 0] rfl ?_
          exact hk_58 (s_58.1 + 4, x_603.2.1, x_603.2.2.1, x_603.2.2.2.1, x_603.2.2.2.2.1, x_603.2.2.2.2.2, x_589.2.1, x_589.2.2.1, x_589.2.2.2, s_58.2.2.2.2.2.2.2.2.2.1 + 1, s_58.2.2.2.2.2.2.2.2.2.2 + 6) (Option.some.inj ho_58).symm q_607 q_608 q_594
        · replace ho_58 := yf_t c_610 ho_58
          refine xr_aload_n (n := 1278) (j := 5) C dd_L_law_45.2.2.2.2.2.2.2.2.2.2.2.2.1 rfl rfl ?_
          refine xr_getN (n := 1281) C 2 rfl rfl 0 (by decide) in_X7 RL (List.mem_of_getElem? (i := 46) rfl) rfl (v := .long x_589.2.2.2) rfl dd_L_law_45.2.2.2.2.2.2.2.2.2.2.2.2.2.1 rfl ?_
          refine xr_iload (n := 1283) (j := 0) C dd_L_law_45.2.2.2.2.2.2.2.2.2.2.2.2.2.2.1 rfl rfl ?_
          refine xr_i2l (n := 1284) C dd_L_law_45.2.2.2.2.2.2.2.2.2.2.2.2.2.2.2.1 rfl ?_
          refine xr_lcmp (n := 1285) C dd_L_law_46.1 rfl ?_
          refine xr_if_eq (tgt := 1290) (n := 1288) C dd_L_law_46.2.1 rfl rfl (fun c_611 => ?_) (fun c_611 => ?_)
          · replace ho_58 := yf_t c_611 ho_58
            refine xr_goto (tgt := 1390) C dd_L_law_46.2.2.2.2.1 rfl ?_
            refine xr_iinc (j := 6) (v := s_58.1 + 4) (n := 1393) C [(4, .int (s_58.1 + 4)), (6, .int x_597.1), (5, .int x_589.1), (0, .ref b), (1, .ref q_1), (2, .ref q_29), (3, .ref q_53)] dd_L_law_49.2.2.2.2.2.2.2.2.2.2.2.2.2.1 rfl rfl (by decide) rfl rfl ?_
            refine xr_goto (tgt := 27) C dd_L_law_49.2.2.2.2.2.2.2.2.2.2.2.2.2.2.1 rfl ?_
            refine xr_lv (lv' := [(0, .ref b), (1, .ref q_1), (2, .ref q_29), (3, .ref q_53), (4, .int (s_58.1 + 4))]) [3, 4, 5, 6, 0] rfl ?_
            exact hk_58 (s_58.1 + 4, x_603.2.1, x_603.2.2.1, x_603.2.2.2.1, x_603.2.2.2.2.1, x_603.2.2.2.2.2, x_589.2.1, x_589.2.2.1, x_589.2.2.2, s_58.2.2.2.2.2.2.2.2.2.1 + 1, s_58.2.2.2.2.2.2.2.2.2.2 + 6) (Option.some.inj ho_58).symm q_607 q_608 q_594
          · replace ho_58 := yf_f c_611 ho_58
            refine xr_iconst (n := 1289) (v := 0) C dd_L_law_46.2.2.1 rfl rfl ?_
            have e_612 := hx_58 _ (Option.some.inj ho_58).symm
            subst e_612
            replace hR := ybr_r hR
            obtain rfl := Option.some.inj hR
            exact ret 0 rfl g_590.1 g_590.2 dd_L_law_46.2.2.2.1
      · replace ho_58 := yf_f c_609 ho_58
        refine xr_iconst (n := 1271) (v := 0) C dd_L_law_45.2.2.2.2.2.2.2.2.1 rfl rfl ?_
        have e_613 := hx_58 _ (Option.some.inj ho_58).symm
        subst e_613
        replace hR := ybr_r hR
        obtain rfl := Option.some.inj hR
        exact ret 0 rfl g_590.1 g_590.2 dd_L_law_45.2.2.2.2.2.2.2.2.2.1
    replace ho_58 := yf_f c_586 ho_58
    by_cases c_614 : ((xs s_58.1.toNatClampNeg) &&& 31) = 17
    · replace ho_58 := yf_t c_614 ho_58
      refine xr_tableIn (off := 1250) (tgt := 1293) C dL_law_43 (by rw [c_614]; decide) (by rw [c_614]; decide) (by rw [c_614]; decide) rfl ?_
      refine xr_aload_n (n := 1294) (j := 1) C dd_L_law_46.2.2.2.2.2.1 rfl rfl ?_
      refine xr_aload_n (n := 1295) (j := 0) C dd_L_law_46.2.2.2.2.2.2.1 rfl rfl ?_
      refine xr_iload (n := 1297) (j := 4) C dd_L_law_46.2.2.2.2.2.2.2.1 rfl rfl ?_
      refine xr_iconst (n := 1298) (v := 1) C dd_L_law_46.2.2.2.2.2.2.2.2.1 rfl rfl ?_
      refine xr_iadd (n := 1299) C dd_L_law_46.2.2.2.2.2.2.2.2.2.1 rfl ?_
      obtain ⟨g_615, ho_58⟩ := yf_g ho_58
      refine xr_sld (n := 1300) C hX hbl hbA g_615 dd_L_law_46.2.2.2.2.2.2.2.2.2.2.1 rfl ?_
      refine xr_aload_n (n := 1301) (j := 3) C dd_L_law_46.2.2.2.2.2.2.2.2.2.2.2.1 rfl rfl ?_
      obtain ⟨x_616, hx_616, ho_58⟩ := yf_b ho_58
      obtain ⟨g_617, ho_58⟩ := yf_g ho_58
      refine xr_callSW (n := 1304) (As := [.ref q_1, .int (xs (s_58.1 + 1).toNatClampNeg), .ref q_53]) (rest := []) C (kgL_best l D cy hl0 (x := q_1) (a := z_28) (o := q_53) (os := a2_58) (n := s_58.2.2.2.2.2.2.1) (t := s_58.2.2.2.2.2.2.2.1) (on := s_58.2.2.2.2.2.2.2.2.1) (i1 := xs (s_58.1 + 1).toNatClampNeg) hx_616) mL_best u_1180 u_1181 3 [1, 2] [0] rfl (by decide +kernel) rfl rfl rfl rfl (Nat.le_of_ble_eq_true rfl) (Nat.le_of_ble_eq_true rfl) (Nat.le_of_ble_eq_true rfl) g_617.1 g_617.2 dd_L_law_46.2.2.2.2.2.2.2.2.2.2.2.2.1 rfl (fun v_618 u_619 hp_620 => ?_)
      obtain ⟨q_621, rfl, rfl⟩ := hp_620
      refine xr_perm C 3 [2, 0, 1] [] [MW q_29 a0_58 a1_58 cy s_58.2.1 s_58.2.2.1 s_58.2.2.2.1 s_58.2.2.2.2.1 s_58.2.2.2.2.2.1, CW q_1 z_28 cy x_616.2.1 x_616.2.2.1, [(q_53, .inr (9, [.long x_616.2.2.2, q_621]))]] rfl (by decide +kernel) rfl ?_
      refine xr_st (st' := [.int x_616.1]) rfl ?_
      refine xr_istore (n := 1306) C [(5, .int x_616.1), (0, .ref b), (1, .ref q_1), (2, .ref q_29), (3, .ref q_53), (4, .int s_58.1)] dd_L_law_46.2.2.2.2.2.2.2.2.2.2.2.2.2.1 (by decide) rfl rfl ?_
      refine xr_aload_n (n := 1307) (j := 3) C dd_L_law_46.2.2.2.2.2.2.2.2.2.2.2.2.2.2.1 rfl rfl ?_
      refine xr_aload_n (n := 1308) (j := 1) C dd_L_law_46.2.2.2.2.2.2.2.2.2.2.2.2.2.2.2.1 rfl rfl ?_
      refine xr_iload (n := 1310) (j := 5) C dd_L_law_47.1 rfl rfl ?_
      refine xr_iconst (n := 1311) (v := 1) C dd_L_law_47.2.1 rfl rfl ?_
      refine xr_iadd (n := 1312) C dd_L_law_47.2.2.1 rfl ?_
      obtain ⟨g_622, ho_58⟩ := yf_g ho_58
      refine xr_sld (n := 1313) C hX hbl hbA g_622 dd_L_law_47.2.2.2.1 rfl ?_
      obtain ⟨x_623, hx_623, ho_58⟩ := yf_b ho_58
      obtain ⟨g_624, ho_58⟩ := yf_g ho_58
      refine xr_callVP (n := 1316) (As := [.int (xs (s_58.1 + 1).toNatClampNeg)]) (rest := []) C (kgX9w_best l D cy (g := q_29) (a := a0_58) (ad := a1_58) (sh := s_58.2.1) (n := s_58.2.2.1) (L := s_58.2.2.2.1) (k := s_58.2.2.2.2.1) (G := s_58.2.2.2.2.2.1) (i1 := xs (s_58.1 + 1).toNatClampNeg) hx_623) mX9_best u_1560 u_1561 u_1562 0 rfl (MW_head _ _ _ _ _ _ _ _ _) rfl 3 [0] [1, 2] rfl (by decide +kernel) rfl rfl rfl rfl (Nat.le_of_ble_eq_true rfl) (Nat.le_of_ble_eq_true rfl) (Nat.le_of_ble_eq_true rfl) g_624.1 g_624.2 dd_L_law_47.2.2.2.2.1 rfl (fun v_625 u_626 hp_627 => ?_)
      obtain ⟨q_628, q_629, rfl, rfl⟩ := hp_627
      refine xr_perm C 3 [0, 1, 2] [] [MW q_29 q_628 q_629 cy x_623.2.1 x_623.2.2.1 x_623.2.2.2.1 x_623.2.2.2.2.1 x_623.2.2.2.2.2, CW q_1 z_28 cy x_616.2.1 x_616.2.2.1, [(q_53, .inr (9, [.long x_616.2.2.2, q_621]))]] rfl (by decide +kernel) rfl ?_
      refine xr_st (st' := [.int x_623.1]) rfl ?_
      refine xr_istore (n := 1318) C [(6, .int x_623.1), (5, .int x_616.1), (0, .ref b), (1, .ref q_1), (2, .ref q_29), (3, .ref q_53), (4, .int s_58.1)] dd_L_law_47.2.2.2.2.2.1 (by decide) rfl rfl ?_
      refine xr_aload_n (n := 1319) (j := 4) C dd_L_law_47.2.2.2.2.2.2.1 rfl rfl ?_
      obtain ⟨x_630, hx_630, ho_58⟩ := yf_b ho_58
      refine xr_callVP (n := 1322) (As := []) (rest := []) C (kgX9w_thrown l D cy (g := q_29) (a := q_628) (ad := q_629) (sh := x_623.2.1) (n := x_623.2.2.1) (L := x_623.2.2.2.1) (k := x_623.2.2.2.2.1) (G := x_623.2.2.2.2.2) hx_630) mX9_thrown u_1290 u_1291 u_1292 0 rfl (MW_head _ _ _ _ _ _ _ _ _) rfl 3 [0] [1, 2] rfl (by decide +kernel) rfl rfl rfl rfl (Nat.le_of_ble_eq_true rfl) (Nat.le_of_ble_eq_true rfl) (Nat.le_of_ble_eq_true rfl) g_624.1 g_624.2 dd_L_law_47.2.2.2.2.2.2.2.1 rfl (fun v_631 u_632 hp_633 => ?_)
      obtain ⟨q_634, q_635, rfl, rfl⟩ := hp_633
      refine xr_perm C 3 [0, 1, 2] [] [MW q_29 q_634 q_635 cy x_630.2.1 x_630.2.2.1 x_630.2.2.2.1 x_630.2.2.2.2.1 x_630.2.2.2.2.2, CW q_1 z_28 cy x_616.2.1 x_616.2.2.1, [(q_53, .inr (9, [.long x_616.2.2.2, q_621]))]] rfl (by decide +kernel) rfl ?_
      refine xr_st (st' := [.int x_630.1]) rfl ?_
      refine xr_iload (n := 1324) (j := 1) C dd_L_law_47.2.2.2.2.2.2.2.2.1 rfl rfl ?_
      refine xr_icmp_eq (tgt := 1329) (n := 1327) C dd_L_law_47.2.2.2.2.2.2.2.2.2.1 rfl rfl (fun c_636 => ?_) (fun c_636 => ?_)
      · replace ho_58 := yf_t c_636 ho_58
        refine xr_iload (n := 1331) (j := 1) C dd_L_law_47.2.2.2.2.2.2.2.2.2.2.2.2.1 rfl rfl ?_
        refine xr_if_ne (tgt := 1347) (n := 1334) C dd_L_law_47.2.2.2.2.2.2.2.2.2.2.2.2.2.1 rfl rfl (fun c_637 => ?_) (fun c_637 => ?_)
        · replace ho_58 := yf_f c_637 ho_58
          refine xr_goto (tgt := 1390) C dd_L_law_48.2.2.2.2.2.2.1 rfl ?_
          refine xr_iinc (j := 6) (v := s_58.1 + 4) (n := 1393) C [(4, .int (s_58.1 + 4)), (6, .int x_623.1), (5, .int x_616.1), (0, .ref b), (1, .ref q_1), (2, .ref q_29), (3, .ref q_53)] dd_L_law_49.2.2.2.2.2.2.2.2.2.2.2.2.2.1 rfl rfl (by decide) rfl rfl ?_
          refine xr_goto (tgt := 27) C dd_L_law_49.2.2.2.2.2.2.2.2.2.2.2.2.2.2.1 rfl ?_
          refine xr_lv (lv' := [(0, .ref b), (1, .ref q_1), (2, .ref q_29), (3, .ref q_53), (4, .int (s_58.1 + 4))]) [3, 4, 5, 6, 0] rfl ?_
          exact hk_58 (s_58.1 + 4, x_630.2.1, x_630.2.2.1, x_630.2.2.2.1, x_630.2.2.2.2.1, x_630.2.2.2.2.2, x_616.2.1, x_616.2.2.1, x_616.2.2.2, s_58.2.2.2.2.2.2.2.2.2.1 + 1 + 30, s_58.2.2.2.2.2.2.2.2.2.2 + 6 + 60) (Option.some.inj ho_58).symm q_634 q_635 q_621
        · replace ho_58 := yf_t c_637 ho_58
          refine xr_aload_n (n := 1335) (j := 5) C dd_L_law_47.2.2.2.2.2.2.2.2.2.2.2.2.2.2.1 rfl rfl ?_
          refine xr_getN (n := 1338) C 2 rfl rfl 0 (by decide) in_X7 RL (List.mem_of_getElem? (i := 46) rfl) rfl (v := .long x_616.2.2.2) rfl dd_L_law_47.2.2.2.2.2.2.2.2.2.2.2.2.2.2.2.1 rfl ?_
          refine xr_iload (n := 1340) (j := 0) C dd_L_law_48.1 rfl rfl ?_
          refine xr_i2l (n := 1341) C dd_L_law_48.2.1 rfl ?_
          refine xr_lcmp (n := 1342) C dd_L_law_48.2.2.1 rfl ?_
          refine xr_if_eq (tgt := 1347) (n := 1345) C dd_L_law_48.2.2.2.1 rfl rfl (fun c_638 => ?_) (fun c_638 => ?_)
          · replace ho_58 := yf_t c_638 ho_58
            refine xr_goto (tgt := 1390) C dd_L_law_48.2.2.2.2.2.2.1 rfl ?_
            refine xr_iinc (j := 6) (v := s_58.1 + 4) (n := 1393) C [(4, .int (s_58.1 + 4)), (6, .int x_623.1), (5, .int x_616.1), (0, .ref b), (1, .ref q_1), (2, .ref q_29), (3, .ref q_53)] dd_L_law_49.2.2.2.2.2.2.2.2.2.2.2.2.2.1 rfl rfl (by decide) rfl rfl ?_
            refine xr_goto (tgt := 27) C dd_L_law_49.2.2.2.2.2.2.2.2.2.2.2.2.2.2.1 rfl ?_
            refine xr_lv (lv' := [(0, .ref b), (1, .ref q_1), (2, .ref q_29), (3, .ref q_53), (4, .int (s_58.1 + 4))]) [3, 4, 5, 6, 0] rfl ?_
            exact hk_58 (s_58.1 + 4, x_630.2.1, x_630.2.2.1, x_630.2.2.2.1, x_630.2.2.2.2.1, x_630.2.2.2.2.2, x_616.2.1, x_616.2.2.1, x_616.2.2.2, s_58.2.2.2.2.2.2.2.2.2.1 + 1 + 30, s_58.2.2.2.2.2.2.2.2.2.2 + 6 + 60) (Option.some.inj ho_58).symm q_634 q_635 q_621
          · replace ho_58 := yf_f c_638 ho_58
            refine xr_iconst (n := 1346) (v := 0) C dd_L_law_48.2.2.2.2.1 rfl rfl ?_
            have e_639 := hx_58 _ (Option.some.inj ho_58).symm
            subst e_639
            replace hR := ybr_r hR
            obtain rfl := Option.some.inj hR
            exact ret 0 rfl g_624.1 g_624.2 dd_L_law_48.2.2.2.2.2.1
      · replace ho_58 := yf_f c_636 ho_58
        refine xr_iconst (n := 1328) (v := 0) C dd_L_law_47.2.2.2.2.2.2.2.2.2.2.1 rfl rfl ?_
        have e_640 := hx_58 _ (Option.some.inj ho_58).symm
        subst e_640
        replace hR := ybr_r hR
        obtain rfl := Option.some.inj hR
        exact ret 0 rfl g_624.1 g_624.2 dd_L_law_47.2.2.2.2.2.2.2.2.2.2.2.1
    replace ho_58 := yf_f c_614 ho_58
    by_cases c_641 : ((xs s_58.1.toNatClampNeg) &&& 31) = 18
    · replace ho_58 := yf_t c_641 ho_58
      refine xr_tableIn (off := 1307) (tgt := 1350) C dL_law_43 (by rw [c_641]; decide) (by rw [c_641]; decide) (by rw [c_641]; decide) rfl ?_
      refine xr_aload_n (n := 1351) (j := 1) C dd_L_law_48.2.2.2.2.2.2.2.1 rfl rfl ?_
      obtain ⟨x_642, hx_642, ho_58⟩ := yf_b ho_58
      refine xr_callVP (n := 1354) (As := []) (rest := []) C (kgX6_saved l D cy (x := q_1) (a := z_28) (n := s_58.2.2.2.2.2.2.1) (t := s_58.2.2.2.2.2.2.2.1) hx_642) mX6_saved u_308 u_309 u_310 1 rfl (CW_head _ _ _ _ _) rfl 3 [1] [0, 2] rfl (by decide +kernel) rfl rfl rfl rfl (Nat.le_of_ble_eq_true rfl) (Nat.le_of_ble_eq_true rfl) (Nat.le_of_ble_eq_true rfl) g_60.1 g_60.2 dd_L_law_48.2.2.2.2.2.2.2.2.1 rfl (fun v_643 u_644 hp_645 => ?_)
      obtain ⟨rfl, rfl⟩ := hp_645
      refine xr_perm C 3 [1, 0, 2] [] [MW q_29 a0_58 a1_58 cy s_58.2.1 s_58.2.2.1 s_58.2.2.2.1 s_58.2.2.2.2.1 s_58.2.2.2.2.2.1, CW q_1 z_28 cy x_642.2.1 x_642.2.2, [(q_53, .inr (9, [.long s_58.2.2.2.2.2.2.2.2.1, a2_58]))]] rfl (by decide +kernel) rfl ?_
      refine xr_st (st' := [.int x_642.1]) rfl ?_
      refine xr_aload_n (n := 1355) (j := 2) C dd_L_law_48.2.2.2.2.2.2.2.2.2.1 rfl rfl ?_
      obtain ⟨x_646, hx_646, ho_58⟩ := yf_b ho_58
      obtain ⟨g_647, ho_58⟩ := yf_g ho_58
      refine xr_callVP (n := 1358) (As := []) (rest := [.int x_642.1]) C (kgX9w_saved l D cy (g := q_29) (a := a0_58) (ad := a1_58) (sh := s_58.2.1) (n := s_58.2.2.1) (L := s_58.2.2.2.1) (k := s_58.2.2.2.2.1) (G := s_58.2.2.2.2.2.1) hx_646) mX9_saved u_1568 u_1569 u_1570 0 rfl (MW_head _ _ _ _ _ _ _ _ _) rfl 3 [0] [1, 2] rfl (by decide +kernel) rfl rfl rfl rfl (Nat.le_of_ble_eq_true rfl) (Nat.le_of_ble_eq_true rfl) (Nat.le_of_ble_eq_true rfl) g_647.1 g_647.2 dd_L_law_48.2.2.2.2.2.2.2.2.2.2.1 rfl (fun v_648 u_649 hp_650 => ?_)
      obtain ⟨q_651, q_652, rfl, rfl⟩ := hp_650
      refine xr_perm C 3 [0, 1, 2] [] [MW q_29 q_651 q_652 cy x_646.2.1 x_646.2.2.1 x_646.2.2.2.1 x_646.2.2.2.2.1 x_646.2.2.2.2.2, CW q_1 z_28 cy x_642.2.1 x_642.2.2, [(q_53, .inr (9, [.long s_58.2.2.2.2.2.2.2.2.1, a2_58]))]] rfl (by decide +kernel) rfl ?_
      refine xr_st (st' := [.int x_646.1, .int x_642.1]) rfl ?_
      refine xr_icmp_eq (tgt := 1390) (n := 1361) C dd_L_law_48.2.2.2.2.2.2.2.2.2.2.2.1 rfl rfl (fun c_653 => ?_) (fun c_653 => ?_)
      · replace ho_58 := yf_t c_653 ho_58
        refine xr_iinc (j := 4) (v := s_58.1 + 4) (n := 1393) C [(4, .int (s_58.1 + 4)), (0, .ref b), (1, .ref q_1), (2, .ref q_29), (3, .ref q_53)] dd_L_law_49.2.2.2.2.2.2.2.2.2.2.2.2.2.1 rfl rfl (by decide) rfl rfl ?_
        refine xr_goto (tgt := 27) C dd_L_law_49.2.2.2.2.2.2.2.2.2.2.2.2.2.2.1 rfl ?_
        refine xr_lv (lv' := [(0, .ref b), (1, .ref q_1), (2, .ref q_29), (3, .ref q_53), (4, .int (s_58.1 + 4))]) [1, 2, 3, 4, 0] rfl ?_
        exact hk_58 (s_58.1 + 4, x_646.2.1, x_646.2.2.1, x_646.2.2.2.1, x_646.2.2.2.2.1, x_646.2.2.2.2.2, x_642.2.1, x_642.2.2, s_58.2.2.2.2.2.2.2.2.1, s_58.2.2.2.2.2.2.2.2.2.1 + 60, s_58.2.2.2.2.2.2.2.2.2.2 + 120) (Option.some.inj ho_58).symm q_651 q_652 a2_58
      · replace ho_58 := yf_f c_653 ho_58
        refine xr_iconst (n := 1362) (v := 0) C dd_L_law_48.2.2.2.2.2.2.2.2.2.2.2.2.1 rfl rfl ?_
        have e_654 := hx_58 _ (Option.some.inj ho_58).symm
        subst e_654
        replace hR := ybr_r hR
        obtain rfl := Option.some.inj hR
        exact ret 0 rfl g_647.1 g_647.2 dd_L_law_48.2.2.2.2.2.2.2.2.2.2.2.2.2.1
    replace ho_58 := yf_f c_641 ho_58
    by_cases c_655 : ((xs s_58.1.toNatClampNeg) &&& 31) = 19
    · replace ho_58 := yf_t c_655 ho_58
      refine xr_tableIn (off := 1320) (tgt := 1363) C dL_law_43 (by rw [c_655]; decide) (by rw [c_655]; decide) (by rw [c_655]; decide) rfl ?_
      refine xr_aload_n (n := 1364) (j := 1) C dd_L_law_48.2.2.2.2.2.2.2.2.2.2.2.2.2.2.1 rfl rfl ?_
      obtain ⟨x_656, hx_656, ho_58⟩ := yf_b ho_58
      refine xr_callVP (n := 1367) (As := []) (rest := []) C (kgX6_isSound l D cy (x := q_1) (a := z_28) (n := s_58.2.2.2.2.2.2.1) (t := s_58.2.2.2.2.2.2.2.1) hx_656) mX6_isSound u_391 u_392 u_393 1 rfl (CW_head _ _ _ _ _) rfl 3 [1] [0, 2] rfl (by decide +kernel) rfl rfl rfl rfl (Nat.le_of_ble_eq_true rfl) (Nat.le_of_ble_eq_true rfl) (Nat.le_of_ble_eq_true rfl) g_60.1 g_60.2 dd_L_law_48.2.2.2.2.2.2.2.2.2.2.2.2.2.2.2.1 rfl (fun v_657 u_658 hp_659 => ?_)
      obtain ⟨rfl, rfl⟩ := hp_659
      refine xr_perm C 3 [1, 0, 2] [] [MW q_29 a0_58 a1_58 cy s_58.2.1 s_58.2.2.1 s_58.2.2.2.1 s_58.2.2.2.2.1 s_58.2.2.2.2.2.1, CW q_1 z_28 cy x_656.2.1 x_656.2.2, [(q_53, .inr (9, [.long s_58.2.2.2.2.2.2.2.2.1, a2_58]))]] rfl (by decide +kernel) rfl ?_
      refine xr_st (st' := [.int x_656.1]) rfl ?_
      refine xr_aload_n (n := 1368) (j := 2) C dd_L_law_49.1 rfl rfl ?_
      obtain ⟨x_660, hx_660, ho_58⟩ := yf_b ho_58
      obtain ⟨g_661, ho_58⟩ := yf_g ho_58
      refine xr_callVP (n := 1371) (As := []) (rest := [.int x_656.1]) C (kgX9w_isSound l D cy (g := q_29) (a := a0_58) (ad := a1_58) (sh := s_58.2.1) (n := s_58.2.2.1) (L := s_58.2.2.2.1) (k := s_58.2.2.2.2.1) (G := s_58.2.2.2.2.2.1) hx_660) mX9_isSound u_1576 u_1577 u_1578 0 rfl (MW_head _ _ _ _ _ _ _ _ _) rfl 3 [0] [1, 2] rfl (by decide +kernel) rfl rfl rfl rfl (Nat.le_of_ble_eq_true rfl) (Nat.le_of_ble_eq_true rfl) (Nat.le_of_ble_eq_true rfl) g_661.1 g_661.2 dd_L_law_49.2.1 rfl (fun v_662 u_663 hp_664 => ?_)
      obtain ⟨q_665, q_666, rfl, rfl⟩ := hp_664
      refine xr_perm C 3 [0, 1, 2] [] [MW q_29 q_665 q_666 cy x_660.2.1 x_660.2.2.1 x_660.2.2.2.1 x_660.2.2.2.2.1 x_660.2.2.2.2.2, CW q_1 z_28 cy x_656.2.1 x_656.2.2, [(q_53, .inr (9, [.long s_58.2.2.2.2.2.2.2.2.1, a2_58]))]] rfl (by decide +kernel) rfl ?_
      refine xr_st (st' := [.int x_660.1, .int x_656.1]) rfl ?_
      refine xr_icmp_eq (tgt := 1390) (n := 1374) C dd_L_law_49.2.2.1 rfl rfl (fun c_667 => ?_) (fun c_667 => ?_)
      · replace ho_58 := yf_t c_667 ho_58
        refine xr_iinc (j := 4) (v := s_58.1 + 4) (n := 1393) C [(4, .int (s_58.1 + 4)), (0, .ref b), (1, .ref q_1), (2, .ref q_29), (3, .ref q_53)] dd_L_law_49.2.2.2.2.2.2.2.2.2.2.2.2.2.1 rfl rfl (by decide) rfl rfl ?_
        refine xr_goto (tgt := 27) C dd_L_law_49.2.2.2.2.2.2.2.2.2.2.2.2.2.2.1 rfl ?_
        refine xr_lv (lv' := [(0, .ref b), (1, .ref q_1), (2, .ref q_29), (3, .ref q_53), (4, .int (s_58.1 + 4))]) [1, 2, 3, 4, 0] rfl ?_
        exact hk_58 (s_58.1 + 4, x_660.2.1, x_660.2.2.1, x_660.2.2.2.1, x_660.2.2.2.2.1, x_660.2.2.2.2.2, x_656.2.1, x_656.2.2, s_58.2.2.2.2.2.2.2.2.1, s_58.2.2.2.2.2.2.2.2.2.1 + 30, s_58.2.2.2.2.2.2.2.2.2.2 + 60) (Option.some.inj ho_58).symm q_665 q_666 a2_58
      · replace ho_58 := yf_f c_667 ho_58
        refine xr_iconst (n := 1375) (v := 0) C dd_L_law_49.2.2.2.1 rfl rfl ?_
        have e_668 := hx_58 _ (Option.some.inj ho_58).symm
        subst e_668
        replace hR := ybr_r hR
        obtain rfl := Option.some.inj hR
        exact ret 0 rfl g_661.1 g_661.2 dd_L_law_49.2.2.2.2.1
    replace ho_58 := yf_f c_655 ho_58
    by_cases c_669 : ((xs s_58.1.toNatClampNeg) &&& 31) = 20
    · replace ho_58 := yf_t c_669 ho_58
      refine xr_tableIn (off := 1333) (tgt := 1376) C dL_law_43 (by rw [c_669]; decide) (by rw [c_669]; decide) (by rw [c_669]; decide) rfl ?_
      refine xr_aload_n (n := 1377) (j := 1) C dd_L_law_49.2.2.2.2.2.1 rfl rfl ?_
      obtain ⟨x_670, hx_670, ho_58⟩ := yf_b ho_58
      refine xr_callVP (n := 1380) (As := []) (rest := []) C (kgX6_digest l D cy (x := q_1) (a := z_28) (n := s_58.2.2.2.2.2.2.1) (t := s_58.2.2.2.2.2.2.2.1) hx_670) mX6_digest u_456 u_457 u_458 1 rfl (CW_head _ _ _ _ _) rfl 3 [1] [0, 2] rfl (by decide +kernel) rfl rfl rfl rfl (Nat.le_of_ble_eq_true rfl) (Nat.le_of_ble_eq_true rfl) (Nat.le_of_ble_eq_true rfl) g_60.1 g_60.2 dd_L_law_49.2.2.2.2.2.2.1 rfl (fun v_671 u_672 hp_673 => ?_)
      obtain ⟨rfl, rfl⟩ := hp_673
      refine xr_perm C 3 [1, 0, 2] [] [MW q_29 a0_58 a1_58 cy s_58.2.1 s_58.2.2.1 s_58.2.2.2.1 s_58.2.2.2.2.1 s_58.2.2.2.2.2.1, CW q_1 z_28 cy x_670.2.1 x_670.2.2, [(q_53, .inr (9, [.long s_58.2.2.2.2.2.2.2.2.1, a2_58]))]] rfl (by decide +kernel) rfl ?_
      refine xr_st (st' := [.long x_670.1]) rfl ?_
      refine xr_aload_n (n := 1381) (j := 2) C dd_L_law_49.2.2.2.2.2.2.2.1 rfl rfl ?_
      obtain ⟨x_674, hx_674, ho_58⟩ := yf_b ho_58
      obtain ⟨g_675, ho_58⟩ := yf_g ho_58
      refine xr_callVP (n := 1384) (As := []) (rest := [.long x_670.1]) C (kgX9w_digest l D cy (g := q_29) (a := a0_58) (ad := a1_58) (sh := s_58.2.1) (n := s_58.2.2.1) (L := s_58.2.2.2.1) (k := s_58.2.2.2.2.1) (G := s_58.2.2.2.2.2.1) hx_674) mX9_digest u_1588 u_1589 u_1590 0 rfl (MW_head _ _ _ _ _ _ _ _ _) rfl 3 [0] [1, 2] rfl (by decide +kernel) rfl rfl rfl rfl (Nat.le_of_ble_eq_true rfl) (Nat.le_of_ble_eq_true rfl) (Nat.le_of_ble_eq_true rfl) g_675.1 g_675.2 dd_L_law_49.2.2.2.2.2.2.2.2.1 rfl (fun v_676 u_677 hp_678 => ?_)
      obtain ⟨q_679, q_680, rfl, rfl⟩ := hp_678
      refine xr_perm C 3 [0, 1, 2] [] [MW q_29 q_679 q_680 cy x_674.2.1 x_674.2.2.1 x_674.2.2.2.1 x_674.2.2.2.2.1 x_674.2.2.2.2.2, CW q_1 z_28 cy x_670.2.1 x_670.2.2, [(q_53, .inr (9, [.long s_58.2.2.2.2.2.2.2.2.1, a2_58]))]] rfl (by decide +kernel) rfl ?_
      refine xr_st (st' := [.long x_674.1, .long x_670.1]) rfl ?_
      refine xr_lcmp (n := 1385) C dd_L_law_49.2.2.2.2.2.2.2.2.2.1 rfl ?_
      refine xr_if_eq (tgt := 1390) (n := 1388) C dd_L_law_49.2.2.2.2.2.2.2.2.2.2.1 rfl rfl (fun c_681 => ?_) (fun c_681 => ?_)
      · replace ho_58 := yf_t c_681 ho_58
        refine xr_iinc (j := 4) (v := s_58.1 + 4) (n := 1393) C [(4, .int (s_58.1 + 4)), (0, .ref b), (1, .ref q_1), (2, .ref q_29), (3, .ref q_53)] dd_L_law_49.2.2.2.2.2.2.2.2.2.2.2.2.2.1 rfl rfl (by decide) rfl rfl ?_
        refine xr_goto (tgt := 27) C dd_L_law_49.2.2.2.2.2.2.2.2.2.2.2.2.2.2.1 rfl ?_
        refine xr_lv (lv' := [(0, .ref b), (1, .ref q_1), (2, .ref q_29), (3, .ref q_53), (4, .int (s_58.1 + 4))]) [1, 2, 3, 4, 0] rfl ?_
        exact hk_58 (s_58.1 + 4, x_674.2.1, x_674.2.2.1, x_674.2.2.2.1, x_674.2.2.2.2.1, x_674.2.2.2.2.2, x_670.2.1, x_670.2.2, s_58.2.2.2.2.2.2.2.2.1, s_58.2.2.2.2.2.2.2.2.2.1 + 300, s_58.2.2.2.2.2.2.2.2.2.2 + 600) (Option.some.inj ho_58).symm q_679 q_680 a2_58
      · replace ho_58 := yf_f c_681 ho_58
        refine xr_iconst (n := 1389) (v := 0) C dd_L_law_49.2.2.2.2.2.2.2.2.2.2.2.1 rfl rfl ?_
        have e_682 := hx_58 _ (Option.some.inj ho_58).symm
        subst e_682
        replace hR := ybr_r hR
        obtain rfl := Option.some.inj hR
        exact ret 0 rfl g_675.1 g_675.2 dd_L_law_49.2.2.2.2.2.2.2.2.2.2.2.2.1
    replace ho_58 := yf_f c_669 ho_58
    refine xr_tableOut (tgt := 1390) C dL_law_43 (ytab_out (fun k h1 h2 => by
      rcases (show k = 0 ∨ k = 1 ∨ k = 2 ∨ k = 3 ∨ k = 4 ∨ k = 5 ∨ k = 6 ∨ k = 7 ∨ k = 8 ∨ k = 9 ∨ k = 10 ∨ k = 11 ∨ k = 12 ∨ k = 13 ∨ k = 14 ∨ k = 15 ∨ k = 16 ∨ k = 17 ∨ k = 18 ∨ k = 19 ∨ k = 20 by omega) with rfl | rfl | rfl | rfl | rfl | rfl | rfl | rfl | rfl | rfl | rfl | rfl | rfl | rfl | rfl | rfl | rfl | rfl | rfl | rfl | rfl
      · exact c_64
      · exact c_95
      · exact c_125
      · exact c_155
      · exact c_181
      · exact c_222
      · exact c_262
      · exact c_287
      · exact c_312
      · exact c_339
      · exact c_369
      · exact c_393
      · exact c_419
      · exact c_449
      · exact c_477
      · exact c_505
      · exact c_586
      · exact c_614
      · exact c_641
      · exact c_655
      · exact c_669)) rfl ?_
    refine xr_iinc (j := 4) (v := s_58.1 + 4) (n := 1393) C [(4, .int (s_58.1 + 4)), (0, .ref b), (1, .ref q_1), (2, .ref q_29), (3, .ref q_53)] dd_L_law_49.2.2.2.2.2.2.2.2.2.2.2.2.2.1 rfl rfl (by decide) rfl rfl ?_
    refine xr_goto (tgt := 27) C dd_L_law_49.2.2.2.2.2.2.2.2.2.2.2.2.2.2.1 rfl ?_
    refine xr_lv (lv' := [(0, .ref b), (1, .ref q_1), (2, .ref q_29), (3, .ref q_53), (4, .int (s_58.1 + 4))]) [1, 2, 3, 4, 0] rfl ?_
    exact hk_58 (s_58.1 + 4, s_58.2.1, s_58.2.2.1, s_58.2.2.2.1, s_58.2.2.2.2.1, s_58.2.2.2.2.2.1, s_58.2.2.2.2.2.2.1, s_58.2.2.2.2.2.2.2.1, s_58.2.2.2.2.2.2.2.2.1, s_58.2.2.2.2.2.2.2.2.2.1, s_58.2.2.2.2.2.2.2.2.2.2) (Option.some.inj ho_58).symm a0_58 a1_58 a2_58
