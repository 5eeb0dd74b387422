theorem dX6_askDebt_95 : decode cX6_askDebt 95 = .ok (.invokevirtual 223, 3) := of_row (r := (95, .invokevirtual 223, 3)) DX6_askDebt_b0 47 rfl
theorem dX6_askDebt_98 : decode cX6_askDebt 98 = .ok (.goto 4, 3) := of_row (r := (98, .goto 4, 3)) DX6_askDebt_b0 48 rfl
theorem dX6_askDebt_101 : decode cX6_askDebt 101 = .ok (.iconst (-1), 1) := of_row (r := (101, .iconst (-1), 1)) DX6_askDebt_b0 49 rfl
theorem dX6_askDebt_102 : decode cX6_askDebt 102 = .ok (.istore 11, 2) := of_row (r := (102, .istore 11, 2)) DX6_askDebt_b0 50 rfl
theorem dX6_askDebt_104 : decode cX6_askDebt 104 = .ok (.aload_n 0, 1) := of_row (r := (104, .aload_n 0, 1)) DX6_askDebt_b0 51 rfl
theorem dX6_askDebt_105 : decode cX6_askDebt 105 = .ok (.iload_n 2, 1) := of_row (r := (105, .iload_n 2, 1)) DX6_askDebt_b0 52 rfl
theorem dX6_askDebt_106 : decode cX6_askDebt 106 = .ok (.iload_n 1, 1) := of_row (r := (106, .iload_n 1, 1)) DX6_askDebt_b0 53 rfl
theorem dX6_askDebt_107 : decode cX6_askDebt 107 = .ok (.iload 8, 2) := of_row (r := (107, .iload 8, 2)) DX6_askDebt_b0 54 rfl
theorem dX6_askDebt_109 : decode cX6_askDebt 109 = .ok (.iload 10, 2) := of_row (r := (109, .iload 10, 2)) DX6_askDebt_b0 55 rfl
theorem dX6_askDebt_111 : decode cX6_askDebt 111 = .ok (.invokevirtual 226, 3) := of_row (r := (111, .invokevirtual 226, 3)) DX6_askDebt_b0 56 rfl
theorem dX6_askDebt_114 : decode cX6_askDebt 114 = .ok (.aload_n 0, 1) := of_row (r := (114, .aload_n 0, 1)) DX6_askDebt_b0 57 rfl
theorem dX6_askDebt_115 : decode cX6_askDebt 115 = .ok (.getfield 68, 3) := of_row (r := (115, .getfield 68, 3)) DX6_askDebt_b0 58 rfl
theorem dX6_askDebt_118 : decode cX6_askDebt 118 = .ok (.getfield 155, 3) := of_row (r := (118, .getfield 155, 3)) DX6_askDebt_b0 59 rfl
set_option maxRecDepth 20000 in
theorem DX6_askDebt_b1 : ([(121, .iconst 1, 1), (122, .isub, 1), (123, .istore 12, 2), (125, .aload_n 0, 1), (126, .getfield 68, 3), (129, .iload 12, 2), (131, .iconst 5, 1), (132, .iload 7, 2), (134, .invokevirtual 127, 3), (137, .aload_n 0, 1), (138, .getfield 68, 3), (141, .iload 12, 2), (143, .bipush 6, 2), (145, .iload_n 3, 1), (146, .invokevirtual 127, 3), (149, .aload_n 0, 1), (150, .getfield 68, 3), (153, .iload 12, 2), (155, .bipush 7, 2), (157, .iload 11, 2), (159, .invokevirtual 127, 3), (162, .aload_n 0, 1), (163, .iload 8, 2), (165, .iload_n 1, 1), (166, .iload_n 2, 1), (167, .iload 10, 2), (169, .invokevirtual 230, 3), (172, .iload 10, 2), (174, .ireturn, 1)] : List (Nat × Instr × Nat)).all (fun r => decide (decode cX6_askDebt r.1 = .ok r.2)) = true := by decide +kernel
theorem dX6_askDebt_121 : decode cX6_askDebt 121 = .ok (.iconst 1, 1) := of_row (r := (121, .iconst 1, 1)) DX6_askDebt_b1 0 rfl
theorem dX6_askDebt_122 : decode cX6_askDebt 122 = .ok (.isub, 1) := of_row (r := (122, .isub, 1)) DX6_askDebt_b1 1 rfl
theorem dX6_askDebt_123 : decode cX6_askDebt 123 = .ok (.istore 12, 2) := of_row (r := (123, .istore 12, 2)) DX6_askDebt_b1 2 rfl
theorem dX6_askDebt_125 : decode cX6_askDebt 125 = .ok (.aload_n 0, 1) := of_row (r := (125, .aload_n 0, 1)) DX6_askDebt_b1 3 rfl
theorem dX6_askDebt_126 : decode cX6_askDebt 126 = .ok (.getfield 68, 3) := of_row (r := (126, .getfield 68, 3)) DX6_askDebt_b1 4 rfl
theorem dX6_askDebt_129 : decode cX6_askDebt 129 = .ok (.iload 12, 2) := of_row (r := (129, .iload 12, 2)) DX6_askDebt_b1 5 rfl
theorem dX6_askDebt_131 : decode cX6_askDebt 131 = .ok (.iconst 5, 1) := of_row (r := (131, .iconst 5, 1)) DX6_askDebt_b1 6 rfl
theorem dX6_askDebt_132 : decode cX6_askDebt 132 = .ok (.iload 7, 2) := of_row (r := (132, .iload 7, 2)) DX6_askDebt_b1 7 rfl
theorem dX6_askDebt_134 : decode cX6_askDebt 134 = .ok (.invokevirtual 127, 3) := of_row (r := (134, .invokevirtual 127, 3)) DX6_askDebt_b1 8 rfl
theorem dX6_askDebt_137 : decode cX6_askDebt 137 = .ok (.aload_n 0, 1) := of_row (r := (137, .aload_n 0, 1)) DX6_askDebt_b1 9 rfl
theorem dX6_askDebt_138 : decode cX6_askDebt 138 = .ok (.getfield 68, 3) := of_row (r := (138, .getfield 68, 3)) DX6_askDebt_b1 10 rfl
theorem dX6_askDebt_141 : decode cX6_askDebt 141 = .ok (.iload 12, 2) := of_row (r := (141, .iload 12, 2)) DX6_askDebt_b1 11 rfl
theorem dX6_askDebt_143 : decode cX6_askDebt 143 = .ok (.bipush 6, 2) := of_row (r := (143, .bipush 6, 2)) DX6_askDebt_b1 12 rfl
theorem dX6_askDebt_145 : decode cX6_askDebt 145 = .ok (.iload_n 3, 1) := of_row (r := (145, .iload_n 3, 1)) DX6_askDebt_b1 13 rfl
theorem dX6_askDebt_146 : decode cX6_askDebt 146 = .ok (.invokevirtual 127, 3) := of_row (r := (146, .invokevirtual 127, 3)) DX6_askDebt_b1 14 rfl
theorem dX6_askDebt_149 : decode cX6_askDebt 149 = .ok (.aload_n 0, 1) := of_row (r := (149, .aload_n 0, 1)) DX6_askDebt_b1 15 rfl
theorem dX6_askDebt_150 : decode cX6_askDebt 150 = .ok (.getfield 68, 3) := of_row (r := (150, .getfield 68, 3)) DX6_askDebt_b1 16 rfl
theorem dX6_askDebt_153 : decode cX6_askDebt 153 = .ok (.iload 12, 2) := of_row (r := (153, .iload 12, 2)) DX6_askDebt_b1 17 rfl
theorem dX6_askDebt_155 : decode cX6_askDebt 155 = .ok (.bipush 7, 2) := of_row (r := (155, .bipush 7, 2)) DX6_askDebt_b1 18 rfl
theorem dX6_askDebt_157 : decode cX6_askDebt 157 = .ok (.iload 11, 2) := of_row (r := (157, .iload 11, 2)) DX6_askDebt_b1 19 rfl
theorem dX6_askDebt_159 : decode cX6_askDebt 159 = .ok (.invokevirtual 127, 3) := of_row (r := (159, .invokevirtual 127, 3)) DX6_askDebt_b1 20 rfl
theorem dX6_askDebt_162 : decode cX6_askDebt 162 = .ok (.aload_n 0, 1) := of_row (r := (162, .aload_n 0, 1)) DX6_askDebt_b1 21 rfl
theorem dX6_askDebt_163 : decode cX6_askDebt 163 = .ok (.iload 8, 2) := of_row (r := (163, .iload 8, 2)) DX6_askDebt_b1 22 rfl
theorem dX6_askDebt_165 : decode cX6_askDebt 165 = .ok (.iload_n 1, 1) := of_row (r := (165, .iload_n 1, 1)) DX6_askDebt_b1 23 rfl
theorem dX6_askDebt_166 : decode cX6_askDebt 166 = .ok (.iload_n 2, 1) := of_row (r := (166, .iload_n 2, 1)) DX6_askDebt_b1 24 rfl
theorem dX6_askDebt_167 : decode cX6_askDebt 167 = .ok (.iload 10, 2) := of_row (r := (167, .iload 10, 2)) DX6_askDebt_b1 25 rfl
theorem dX6_askDebt_169 : decode cX6_askDebt 169 = .ok (.invokevirtual 230, 3) := of_row (r := (169, .invokevirtual 230, 3)) DX6_askDebt_b1 26 rfl
theorem dX6_askDebt_172 : decode cX6_askDebt 172 = .ok (.iload 10, 2) := of_row (r := (172, .iload 10, 2)) DX6_askDebt_b1 27 rfl
theorem dX6_askDebt_174 : decode cX6_askDebt 174 = .ok (.ireturn, 1) := of_row (r := (174, .ireturn, 1)) DX6_askDebt_b1 28 rfl
set_option maxRecDepth 20000 in
theorem DX6_doAct_b0 : ([(0, .aload_n 0, 1), (1, .getfield 65, 3), (4, .iload_n 2, 1), (5, .iconst 3, 1), (6, .invokevirtual 139, 3), (9, .istore 5, 2), (11, .aload_n 0, 1), (12, .getfield 65, 3), (15, .iload_n 2, 1), (16, .iconst 5, 1), (17, .invokevirtual 139, 3), (20, .istore 6, 2), (22, .aload_n 0, 1), (23, .dup, 1), (24, .getfield 233, 3), (27, .iload 4, 2), (29, .i2l, 1), (30, .ladd, 1), (31, .putfield 233, 3), (34, .aload_n 0, 1), (35, .getfield 65, 3), (38, .iload_n 2, 1), (39, .iconst 3, 1), (40, .iload 5, 2), (42, .iload 4, 2), (44, .isub, 1), (45, .invokevirtual 127, 3), (48, .iload_n 1, 1), (49, .iconst 3, 1), (50, .if_icmp .ne 28, 3), (53, .aload_n 0, 1), (54, .getfield 65, 3), (57, .iload_n 2, 1), (58, .bipush 6, 2), (60, .iload 5, 2), (62, .invokevirtual 127, 3), (65, .aload_n 0, 1), (66, .getfield 65, 3), (69, .iload_n 2, 1), (70, .iconst 3, 1), (71, .iconst 0, 1), (72, .invokevirtual 127, 3), (75, .goto 49, 3), (78, .iload_n 1, 1), (79, .iconst 4, 1), (80, .if_icmp .ne 25, 3), (83, .iload 6, 2), (85, .iconst (-1), 1), (86, .if_icmp .eq 19, 3), (89, .iload 6, 2), (91, .iload_n 3, 1), (92, .if_icmp .eq 13, 3), (95, .aload_n 0, 1), (96, .iload_n 2, 1), (97, .iload 6, 2), (99, .invokevirtual 199, 3), (102, .goto 22, 3), (105, .iload_n 1, 1), (106, .iconst 5, 1), (107, .if_icmp .ne 17, 3)] : List (Nat × Instr × Nat)).all (fun r => decide (decode cX6_doAct r.1 = .ok r.2)) = true := by decide +kernel
theorem dX6_doAct_0 : decode cX6_doAct 0 = .ok (.aload_n 0, 1) := of_row (r := (0, .aload_n 0, 1)) DX6_doAct_b0 0 rfl
theorem dX6_doAct_1 : decode cX6_doAct 1 = .ok (.getfield 65, 3) := of_row (r := (1, .getfield 65, 3)) DX6_doAct_b0 1 rfl
theorem dX6_doAct_4 : decode cX6_doAct 4 = .ok (.iload_n 2, 1) := of_row (r := (4, .iload_n 2, 1)) DX6_doAct_b0 2 rfl
theorem dX6_doAct_5 : decode cX6_doAct 5 = .ok (.iconst 3, 1) := of_row (r := (5, .iconst 3, 1)) DX6_doAct_b0 3 rfl
theorem dX6_doAct_6 : decode cX6_doAct 6 = .ok (.invokevirtual 139, 3) := of_row (r := (6, .invokevirtual 139, 3)) DX6_doAct_b0 4 rfl
theorem dX6_doAct_9 : decode cX6_doAct 9 = .ok (.istore 5, 2) := of_row (r := (9, .istore 5, 2)) DX6_doAct_b0 5 rfl
theorem dX6_doAct_11 : decode cX6_doAct 11 = .ok (.aload_n 0, 1) := of_row (r := (11, .aload_n 0, 1)) DX6_doAct_b0 6 rfl
theorem dX6_doAct_12 : decode cX6_doAct 12 = .ok (.getfield 65, 3) := of_row (r := (12, .getfield 65, 3)) DX6_doAct_b0 7 rfl
theorem dX6_doAct_15 : decode cX6_doAct 15 = .ok (.iload_n 2, 1) := of_row (r := (15, .iload_n 2, 1)) DX6_doAct_b0 8 rfl
theorem dX6_doAct_16 : decode cX6_doAct 16 = .ok (.iconst 5, 1) := of_row (r := (16, .iconst 5, 1)) DX6_doAct_b0 9 rfl
theorem dX6_doAct_17 : decode cX6_doAct 17 = .ok (.invokevirtual 139, 3) := of_row (r := (17, .invokevirtual 139, 3)) DX6_doAct_b0 10 rfl
theorem dX6_doAct_20 : decode cX6_doAct 20 = .ok (.istore 6, 2) := of_row (r := (20, .istore 6, 2)) DX6_doAct_b0 11 rfl
theorem dX6_doAct_22 : decode cX6_doAct 22 = .ok (.aload_n 0, 1) := of_row (r := (22, .aload_n 0, 1)) DX6_doAct_b0 12 rfl
theorem dX6_doAct_23 : decode cX6_doAct 23 = .ok (.dup, 1) := of_row (r := (23, .dup, 1)) DX6_doAct_b0 13 rfl
theorem dX6_doAct_24 : decode cX6_doAct 24 = .ok (.getfield 233, 3) := of_row (r := (24, .getfield 233, 3)) DX6_doAct_b0 14 rfl
theorem dX6_doAct_27 : decode cX6_doAct 27 = .ok (.iload 4, 2) := of_row (r := (27, .iload 4, 2)) DX6_doAct_b0 15 rfl
theorem dX6_doAct_29 : decode cX6_doAct 29 = .ok (.i2l, 1) := of_row (r := (29, .i2l, 1)) DX6_doAct_b0 16 rfl
theorem dX6_doAct_30 : decode cX6_doAct 30 = .ok (.ladd, 1) := of_row (r := (30, .ladd, 1)) DX6_doAct_b0 17 rfl
theorem dX6_doAct_31 : decode cX6_doAct 31 = .ok (.putfield 233, 3) := of_row (r := (31, .putfield 233, 3)) DX6_doAct_b0 18 rfl
theorem dX6_doAct_34 : decode cX6_doAct 34 = .ok (.aload_n 0, 1) := of_row (r := (34, .aload_n 0, 1)) DX6_doAct_b0 19 rfl
theorem dX6_doAct_35 : decode cX6_doAct 35 = .ok (.getfield 65, 3) := of_row (r := (35, .getfield 65, 3)) DX6_doAct_b0 20 rfl
theorem dX6_doAct_38 : decode cX6_doAct 38 = .ok (.iload_n 2, 1) := of_row (r := (38, .iload_n 2, 1)) DX6_doAct_b0 21 rfl
theorem dX6_doAct_39 : decode cX6_doAct 39 = .ok (.iconst 3, 1) := of_row (r := (39, .iconst 3, 1)) DX6_doAct_b0 22 rfl
theorem dX6_doAct_40 : decode cX6_doAct 40 = .ok (.iload 5, 2) := of_row (r := (40, .iload 5, 2)) DX6_doAct_b0 23 rfl
theorem dX6_doAct_42 : decode cX6_doAct 42 = .ok (.iload 4, 2) := of_row (r := (42, .iload 4, 2)) DX6_doAct_b0 24 rfl
theorem dX6_doAct_44 : decode cX6_doAct 44 = .ok (.isub, 1) := of_row (r := (44, .isub, 1)) DX6_doAct_b0 25 rfl
theorem dX6_doAct_45 : decode cX6_doAct 45 = .ok (.invokevirtual 127, 3) := of_row (r := (45, .invokevirtual 127, 3)) DX6_doAct_b0 26 rfl
theorem dX6_doAct_48 : decode cX6_doAct 48 = .ok (.iload_n 1, 1) := of_row (r := (48, .iload_n 1, 1)) DX6_doAct_b0 27 rfl
theorem dX6_doAct_49 : decode cX6_doAct 49 = .ok (.iconst 3, 1) := of_row (r := (49, .iconst 3, 1)) DX6_doAct_b0 28 rfl
theorem dX6_doAct_50 : decode cX6_doAct 50 = .ok (.if_icmp .ne 28, 3) := of_row (r := (50, .if_icmp .ne 28, 3)) DX6_doAct_b0 29 rfl
theorem dX6_doAct_53 : decode cX6_doAct 53 = .ok (.aload_n 0, 1) := of_row (r := (53, .aload_n 0, 1)) DX6_doAct_b0 30 rfl
theorem dX6_doAct_54 : decode cX6_doAct 54 = .ok (.getfield 65, 3) := of_row (r := (54, .getfield 65, 3)) DX6_doAct_b0 31 rfl
theorem dX6_doAct_57 : decode cX6_doAct 57 = .ok (.iload_n 2, 1) := of_row (r := (57, .iload_n 2, 1)) DX6_doAct_b0 32 rfl
theorem dX6_doAct_58 : decode cX6_doAct 58 = .ok (.bipush 6, 2) := of_row (r := (58, .bipush 6, 2)) DX6_doAct_b0 33 rfl
theorem dX6_doAct_60 : decode cX6_doAct 60 = .ok (.iload 5, 2) := of_row (r := (60, .iload 5, 2)) DX6_doAct_b0 34 rfl
theorem dX6_doAct_62 : decode cX6_doAct 62 = .ok (.invokevirtual 127, 3) := of_row (r := (62, .invokevirtual 127, 3)) DX6_doAct_b0 35 rfl
theorem dX6_doAct_65 : decode cX6_doAct 65 = .ok (.aload_n 0, 1) := of_row (r := (65, .aload_n 0, 1)) DX6_doAct_b0 36 rfl
theorem dX6_doAct_66 : decode cX6_doAct 66 = .ok (.getfield 65, 3) := of_row (r := (66, .getfield 65, 3)) DX6_doAct_b0 37 rfl
theorem dX6_doAct_69 : decode cX6_doAct 69 = .ok (.iload_n 2, 1) := of_row (r := (69, .iload_n 2, 1)) DX6_doAct_b0 38 rfl
theorem dX6_doAct_70 : decode cX6_doAct 70 = .ok (.iconst 3, 1) := of_row (r := (70, .iconst 3, 1)) DX6_doAct_b0 39 rfl
theorem dX6_doAct_71 : decode cX6_doAct 71 = .ok (.iconst 0, 1) := of_row (r := (71, .iconst 0, 1)) DX6_doAct_b0 40 rfl
theorem dX6_doAct_72 : decode cX6_doAct 72 = .ok (.invokevirtual 127, 3) := of_row (r := (72, .invokevirtual 127, 3)) DX6_doAct_b0 41 rfl
theorem dX6_doAct_75 : decode cX6_doAct 75 = .ok (.goto 49, 3) := of_row (r := (75, .goto 49, 3)) DX6_doAct_b0 42 rfl
theorem dX6_doAct_78 : decode cX6_doAct 78 = .ok (.iload_n 1, 1) := of_row (r := (78, .iload_n 1, 1)) DX6_doAct_b0 43 rfl
theorem dX6_doAct_79 : decode cX6_doAct 79 = .ok (.iconst 4, 1) := of_row (r := (79, .iconst 4, 1)) DX6_doAct_b0 44 rfl
theorem dX6_doAct_80 : decode cX6_doAct 80 = .ok (.if_icmp .ne 25, 3) := of_row (r := (80, .if_icmp .ne 25, 3)) DX6_doAct_b0 45 rfl
theorem dX6_doAct_83 : decode cX6_doAct 83 = .ok (.iload 6, 2) := of_row (r := (83, .iload 6, 2)) DX6_doAct_b0 46 rfl
theorem dX6_doAct_85 : decode cX6_doAct 85 = .ok (.iconst (-1), 1) := of_row (r := (85, .iconst (-1), 1)) DX6_doAct_b0 47 rfl
theorem dX6_doAct_86 : decode cX6_doAct 86 = .ok (.if_icmp .eq 19, 3) := of_row (r := (86, .if_icmp .eq 19, 3)) DX6_doAct_b0 48 rfl
theorem dX6_doAct_89 : decode cX6_doAct 89 = .ok (.iload 6, 2) := of_row (r := (89, .iload 6, 2)) DX6_doAct_b0 49 rfl
theorem dX6_doAct_91 : decode cX6_doAct 91 = .ok (.iload_n 3, 1) := of_row (r := (91, .iload_n 3, 1)) DX6_doAct_b0 50 rfl
theorem dX6_doAct_92 : decode cX6_doAct 92 = .ok (.if_icmp .eq 13, 3) := of_row (r := (92, .if_icmp .eq 13, 3)) DX6_doAct_b0 51 rfl
theorem dX6_doAct_95 : decode cX6_doAct 95 = .ok (.aload_n 0, 1) := of_row (r := (95, .aload_n 0, 1)) DX6_doAct_b0 52 rfl
theorem dX6_doAct_96 : decode cX6_doAct 96 = .ok (.iload_n 2, 1) := of_row (r := (96, .iload_n 2, 1)) DX6_doAct_b0 53 rfl
theorem dX6_doAct_97 : decode cX6_doAct 97 = .ok (.iload 6, 2) := of_row (r := (97, .iload 6, 2)) DX6_doAct_b0 54 rfl
theorem dX6_doAct_99 : decode cX6_doAct 99 = .ok (.invokevirtual 199, 3) := of_row (r := (99, .invokevirtual 199, 3)) DX6_doAct_b0 55 rfl
theorem dX6_doAct_102 : decode cX6_doAct 102 = .ok (.goto 22, 3) := of_row (r := (102, .goto 22, 3)) DX6_doAct_b0 56 rfl
theorem dX6_doAct_105 : decode cX6_doAct 105 = .ok (.iload_n 1, 1) := of_row (r := (105, .iload_n 1, 1)) DX6_doAct_b0 57 rfl
theorem dX6_doAct_106 : decode cX6_doAct 106 = .ok (.iconst 5, 1) := of_row (r := (106, .iconst 5, 1)) DX6_doAct_b0 58 rfl
theorem dX6_doAct_107 : decode cX6_doAct 107 = .ok (.if_icmp .ne 17, 3) := of_row (r := (107, .if_icmp .ne 17, 3)) DX6_doAct_b0 59 rfl
set_option maxRecDepth 20000 in
theorem DX6_doAct_b1 : ([(110, .iload_n 3, 1), (111, .invokestatic 166, 3), (114, .ifCond .eq 10, 3), (117, .aload_n 0, 1), (118, .getfield 51, 3), (121, .iload_n 3, 1), (122, .iconst 1, 1), (123, .bastore, 1), (124, .return_, 1)] : List (Nat × Instr × Nat)).all (fun r => decide (decode cX6_doAct r.1 = .ok r.2)) = true := by decide +kernel
theorem dX6_doAct_110 : decode cX6_doAct 110 = .ok (.iload_n 3, 1) := of_row (r := (110, .iload_n 3, 1)) DX6_doAct_b1 0 rfl
theorem dX6_doAct_111 : decode cX6_doAct 111 = .ok (.invokestatic 166, 3) := of_row (r := (111, .invokestatic 166, 3)) DX6_doAct_b1 1 rfl
theorem dX6_doAct_114 : decode cX6_doAct 114 = .ok (.ifCond .eq 10, 3) := of_row (r := (114, .ifCond .eq 10, 3)) DX6_doAct_b1 2 rfl
theorem dX6_doAct_117 : decode cX6_doAct 117 = .ok (.aload_n 0, 1) := of_row (r := (117, .aload_n 0, 1)) DX6_doAct_b1 3 rfl
theorem dX6_doAct_118 : decode cX6_doAct 118 = .ok (.getfield 51, 3) := of_row (r := (118, .getfield 51, 3)) DX6_doAct_b1 4 rfl
theorem dX6_doAct_121 : decode cX6_doAct 121 = .ok (.iload_n 3, 1) := of_row (r := (121, .iload_n 3, 1)) DX6_doAct_b1 5 rfl
theorem dX6_doAct_122 : decode cX6_doAct 122 = .ok (.iconst 1, 1) := of_row (r := (122, .iconst 1, 1)) DX6_doAct_b1 6 rfl
theorem dX6_doAct_123 : decode cX6_doAct 123 = .ok (.bastore, 1) := of_row (r := (123, .bastore, 1)) DX6_doAct_b1 7 rfl
theorem dX6_doAct_124 : decode cX6_doAct 124 = .ok (.return_, 1) := of_row (r := (124, .return_, 1)) DX6_doAct_b1 8 rfl
set_option maxRecDepth 20000 in
theorem DX6_splitStick_b0 : ([(0, .aload_n 0, 1), (1, .getfield 71, 3), (4, .invokevirtual 123, 3), (7, .istore_n 2, 1), (8, .aload_n 0, 1), (9, .getfield 71, 3), (12, .iload_n 2, 1), (13, .iconst 0, 1), (14, .iload_n 1, 1), (15, .invokevirtual 127, 3), (18, .iload_n 2, 1), (19, .ireturn, 1)] : List (Nat × Instr × Nat)).all (fun r => decide (decode cX6_splitStick r.1 = .ok r.2)) = true := by decide +kernel
theorem dX6_splitStick_0 : decode cX6_splitStick 0 = .ok (.aload_n 0, 1) := of_row (r := (0, .aload_n 0, 1)) DX6_splitStick_b0 0 rfl
theorem dX6_splitStick_1 : decode cX6_splitStick 1 = .ok (.getfield 71, 3) := of_row (r := (1, .getfield 71, 3)) DX6_splitStick_b0 1 rfl
theorem dX6_splitStick_4 : decode cX6_splitStick 4 = .ok (.invokevirtual 123, 3) := of_row (r := (4, .invokevirtual 123, 3)) DX6_splitStick_b0 2 rfl
theorem dX6_splitStick_7 : decode cX6_splitStick 7 = .ok (.istore_n 2, 1) := of_row (r := (7, .istore_n 2, 1)) DX6_splitStick_b0 3 rfl
theorem dX6_splitStick_8 : decode cX6_splitStick 8 = .ok (.aload_n 0, 1) := of_row (r := (8, .aload_n 0, 1)) DX6_splitStick_b0 4 rfl
theorem dX6_splitStick_9 : decode cX6_splitStick 9 = .ok (.getfield 71, 3) := of_row (r := (9, .getfield 71, 3)) DX6_splitStick_b0 5 rfl
theorem dX6_splitStick_12 : decode cX6_splitStick 12 = .ok (.iload_n 2, 1) := of_row (r := (12, .iload_n 2, 1)) DX6_splitStick_b0 6 rfl
theorem dX6_splitStick_13 : decode cX6_splitStick 13 = .ok (.iconst 0, 1) := of_row (r := (13, .iconst 0, 1)) DX6_splitStick_b0 7 rfl
theorem dX6_splitStick_14 : decode cX6_splitStick 14 = .ok (.iload_n 1, 1) := of_row (r := (14, .iload_n 1, 1)) DX6_splitStick_b0 8 rfl
theorem dX6_splitStick_15 : decode cX6_splitStick 15 = .ok (.invokevirtual 127, 3) := of_row (r := (15, .invokevirtual 127, 3)) DX6_splitStick_b0 9 rfl
theorem dX6_splitStick_18 : decode cX6_splitStick 18 = .ok (.iload_n 2, 1) := of_row (r := (18, .iload_n 2, 1)) DX6_splitStick_b0 10 rfl
theorem dX6_splitStick_19 : decode cX6_splitStick 19 = .ok (.ireturn, 1) := of_row (r := (19, .ireturn, 1)) DX6_splitStick_b0 11 rfl
set_option maxRecDepth 20000 in
theorem DX6_writeLine_b0 : ([(0, .aload_n 0, 1), (1, .getfield 68, 3), (4, .invokevirtual 123, 3), (7, .istore 5, 2), (9, .aload_n 0, 1), (10, .getfield 68, 3), (13, .iload 5, 2), (15, .iconst 0, 1), (16, .aload_n 0, 1), (17, .getfield 120, 3), (20, .invokevirtual 127, 3), (23, .aload_n 0, 1), (24, .getfield 68, 3), (27, .iload 5, 2), (29, .iconst 1, 1), (30, .iload_n 1, 1), (31, .invokevirtual 127, 3), (34, .aload_n 0, 1), (35, .getfield 68, 3), (38, .iload 5, 2), (40, .iconst 2, 1), (41, .iload_n 2, 1), (42, .invokevirtual 127, 3), (45, .aload_n 0, 1), (46, .getfield 68, 3), (49, .iload 5, 2), (51, .iconst 3, 1), (52, .iload_n 3, 1), (53, .invokevirtual 127, 3), (56, .aload_n 0, 1), (57, .getfield 68, 3), (60, .iload 5, 2), (62, .iconst 4, 1), (63, .iload 4, 2), (65, .invokevirtual 127, 3), (68, .return_, 1)] : List (Nat × Instr × Nat)).all (fun r => decide (decode cX6_writeLine r.1 = .ok r.2)) = true := by decide +kernel
theorem dX6_writeLine_0 : decode cX6_writeLine 0 = .ok (.aload_n 0, 1) := of_row (r := (0, .aload_n 0, 1)) DX6_writeLine_b0 0 rfl
theorem dX6_writeLine_1 : decode cX6_writeLine 1 = .ok (.getfield 68, 3) := of_row (r := (1, .getfield 68, 3)) DX6_writeLine_b0 1 rfl
theorem dX6_writeLine_4 : decode cX6_writeLine 4 = .ok (.invokevirtual 123, 3) := of_row (r := (4, .invokevirtual 123, 3)) DX6_writeLine_b0 2 rfl
theorem dX6_writeLine_7 : decode cX6_writeLine 7 = .ok (.istore 5, 2) := of_row (r := (7, .istore 5, 2)) DX6_writeLine_b0 3 rfl
theorem dX6_writeLine_9 : decode cX6_writeLine 9 = .ok (.aload_n 0, 1) := of_row (r := (9, .aload_n 0, 1)) DX6_writeLine_b0 4 rfl
theorem dX6_writeLine_10 : decode cX6_writeLine 10 = .ok (.getfield 68, 3) := of_row (r := (10, .getfield 68, 3)) DX6_writeLine_b0 5 rfl
theorem dX6_writeLine_13 : decode cX6_writeLine 13 = .ok (.iload 5, 2) := of_row (r := (13, .iload 5, 2)) DX6_writeLine_b0 6 rfl
theorem dX6_writeLine_15 : decode cX6_writeLine 15 = .ok (.iconst 0, 1) := of_row (r := (15, .iconst 0, 1)) DX6_writeLine_b0 7 rfl
theorem dX6_writeLine_16 : decode cX6_writeLine 16 = .ok (.aload_n 0, 1) := of_row (r := (16, .aload_n 0, 1)) DX6_writeLine_b0 8 rfl
theorem dX6_writeLine_17 : decode cX6_writeLine 17 = .ok (.getfield 120, 3) := of_row (r := (17, .getfield 120, 3)) DX6_writeLine_b0 9 rfl
theorem dX6_writeLine_20 : decode cX6_writeLine 20 = .ok (.invokevirtual 127, 3) := of_row (r := (20, .invokevirtual 127, 3)) DX6_writeLine_b0 10 rfl
theorem dX6_writeLine_23 : decode cX6_writeLine 23 = .ok (.aload_n 0, 1) := of_row (r := (23, .aload_n 0, 1)) DX6_writeLine_b0 11 rfl
theorem dX6_writeLine_24 : decode cX6_writeLine 24 = .ok (.getfield 68, 3) := of_row (r := (24, .getfield 68, 3)) DX6_writeLine_b0 12 rfl
theorem dX6_writeLine_27 : decode cX6_writeLine 27 = .ok (.iload 5, 2) := of_row (r := (27, .iload 5, 2)) DX6_writeLine_b0 13 rfl
theorem dX6_writeLine_29 : decode cX6_writeLine 29 = .ok (.iconst 1, 1) := of_row (r := (29, .iconst 1, 1)) DX6_writeLine_b0 14 rfl
theorem dX6_writeLine_30 : decode cX6_writeLine 30 = .ok (.iload_n 1, 1) := of_row (r := (30, .iload_n 1, 1)) DX6_writeLine_b0 15 rfl
theorem dX6_writeLine_31 : decode cX6_writeLine 31 = .ok (.invokevirtual 127, 3) := of_row (r := (31, .invokevirtual 127, 3)) DX6_writeLine_b0 16 rfl
theorem dX6_writeLine_34 : decode cX6_writeLine 34 = .ok (.aload_n 0, 1) := of_row (r := (34, .aload_n 0, 1)) DX6_writeLine_b0 17 rfl
theorem dX6_writeLine_35 : decode cX6_writeLine 35 = .ok (.getfield 68, 3) := of_row (r := (35, .getfield 68, 3)) DX6_writeLine_b0 18 rfl
theorem dX6_writeLine_38 : decode cX6_writeLine 38 = .ok (.iload 5, 2) := of_row (r := (38, .iload 5, 2)) DX6_writeLine_b0 19 rfl
theorem dX6_writeLine_40 : decode cX6_writeLine 40 = .ok (.iconst 2, 1) := of_row (r := (40, .iconst 2, 1)) DX6_writeLine_b0 20 rfl
theorem dX6_writeLine_41 : decode cX6_writeLine 41 = .ok (.iload_n 2, 1) := of_row (r := (41, .iload_n 2, 1)) DX6_writeLine_b0 21 rfl
theorem dX6_writeLine_42 : decode cX6_writeLine 42 = .ok (.invokevirtual 127, 3) := of_row (r := (42, .invokevirtual 127, 3)) DX6_writeLine_b0 22 rfl
theorem dX6_writeLine_45 : decode cX6_writeLine 45 = .ok (.aload_n 0, 1) := of_row (r := (45, .aload_n 0, 1)) DX6_writeLine_b0 23 rfl
theorem dX6_writeLine_46 : decode cX6_writeLine 46 = .ok (.getfield 68, 3) := of_row (r := (46, .getfield 68, 3)) DX6_writeLine_b0 24 rfl
theorem dX6_writeLine_49 : decode cX6_writeLine 49 = .ok (.iload 5, 2) := of_row (r := (49, .iload 5, 2)) DX6_writeLine_b0 25 rfl
theorem dX6_writeLine_51 : decode cX6_writeLine 51 = .ok (.iconst 3, 1) := of_row (r := (51, .iconst 3, 1)) DX6_writeLine_b0 26 rfl
theorem dX6_writeLine_52 : decode cX6_writeLine 52 = .ok (.iload_n 3, 1) := of_row (r := (52, .iload_n 3, 1)) DX6_writeLine_b0 27 rfl
theorem dX6_writeLine_53 : decode cX6_writeLine 53 = .ok (.invokevirtual 127, 3) := of_row (r := (53, .invokevirtual 127, 3)) DX6_writeLine_b0 28 rfl
theorem dX6_writeLine_56 : decode cX6_writeLine 56 = .ok (.aload_n 0, 1) := of_row (r := (56, .aload_n 0, 1)) DX6_writeLine_b0 29 rfl
theorem dX6_writeLine_57 : decode cX6_writeLine 57 = .ok (.getfield 68, 3) := of_row (r := (57, .getfield 68, 3)) DX6_writeLine_b0 30 rfl
theorem dX6_writeLine_60 : decode cX6_writeLine 60 = .ok (.iload 5, 2) := of_row (r := (60, .iload 5, 2)) DX6_writeLine_b0 31 rfl
theorem dX6_writeLine_62 : decode cX6_writeLine 62 = .ok (.iconst 4, 1) := of_row (r := (62, .iconst 4, 1)) DX6_writeLine_b0 32 rfl
theorem dX6_writeLine_63 : decode cX6_writeLine 63 = .ok (.iload 4, 2) := of_row (r := (63, .iload 4, 2)) DX6_writeLine_b0 33 rfl
theorem dX6_writeLine_65 : decode cX6_writeLine 65 = .ok (.invokevirtual 127, 3) := of_row (r := (65, .invokevirtual 127, 3)) DX6_writeLine_b0 34 rfl
theorem dX6_writeLine_68 : decode cX6_writeLine 68 = .ok (.return_, 1) := of_row (r := (68, .return_, 1)) DX6_writeLine_b0 35 rfl
set_option maxRecDepth 20000 in
theorem DX6_line_b0 : ([(0, .aload_n 0, 1), (1, .getfield 68, 3), (4, .iload_n 1, 1), (5, .iload_n 2, 1), (6, .invokevirtual 202, 3), (9, .ifCond .eq 15, 3), (12, .aload_n 0, 1), (13, .getfield 68, 3), (16, .iload_n 1, 1), (17, .iload_n 2, 1), (18, .invokevirtual 139, 3), (21, .goto 5, 3), (24, .bipush (-2), 2), (26, .ireturn, 1)] : List (Nat × Instr × Nat)).all (fun r => decide (decode cX6_line r.1 = .ok r.2)) = true := by decide +kernel
theorem dX6_line_0 : decode cX6_line 0 = .ok (.aload_n 0, 1) := of_row (r := (0, .aload_n 0, 1)) DX6_line_b0 0 rfl
theorem dX6_line_1 : decode cX6_line 1 = .ok (.getfield 68, 3) := of_row (r := (1, .getfield 68, 3)) DX6_line_b0 1 rfl
theorem dX6_line_4 : decode cX6_line 4 = .ok (.iload_n 1, 1) := of_row (r := (4, .iload_n 1, 1)) DX6_line_b0 2 rfl
theorem dX6_line_5 : decode cX6_line 5 = .ok (.iload_n 2, 1) := of_row (r := (5, .iload_n 2, 1)) DX6_line_b0 3 rfl
theorem dX6_line_6 : decode cX6_line 6 = .ok (.invokevirtual 202, 3) := of_row (r := (6, .invokevirtual 202, 3)) DX6_line_b0 4 rfl
theorem dX6_line_9 : decode cX6_line 9 = .ok (.ifCond .eq 15, 3) := of_row (r := (9, .ifCond .eq 15, 3)) DX6_line_b0 5 rfl
theorem dX6_line_12 : decode cX6_line 12 = .ok (.aload_n 0, 1) := of_row (r := (12, .aload_n 0, 1)) DX6_line_b0 6 rfl
theorem dX6_line_13 : decode cX6_line 13 = .ok (.getfield 68, 3) := of_row (r := (13, .getfield 68, 3)) DX6_line_b0 7 rfl
theorem dX6_line_16 : decode cX6_line 16 = .ok (.iload_n 1, 1) := of_row (r := (16, .iload_n 1, 1)) DX6_line_b0 8 rfl
theorem dX6_line_17 : decode cX6_line 17 = .ok (.iload_n 2, 1) := of_row (r := (17, .iload_n 2, 1)) DX6_line_b0 9 rfl
theorem dX6_line_18 : decode cX6_line 18 = .ok (.invokevirtual 139, 3) := of_row (r := (18, .invokevirtual 139, 3)) DX6_line_b0 10 rfl
theorem dX6_line_21 : decode cX6_line 21 = .ok (.goto 5, 3) := of_row (r := (21, .goto 5, 3)) DX6_line_b0 11 rfl
theorem dX6_line_24 : decode cX6_line 24 = .ok (.bipush (-2), 2) := of_row (r := (24, .bipush (-2), 2)) DX6_line_b0 12 rfl
theorem dX6_line_26 : decode cX6_line 26 = .ok (.ireturn, 1) := of_row (r := (26, .ireturn, 1)) DX6_line_b0 13 rfl
set_option maxRecDepth 20000 in
theorem DX6_as_b0 : ([(0, .aload_n 0, 1), (1, .getfield 65, 3), (4, .iload_n 1, 1), (5, .iconst 4, 1), (6, .invokevirtual 202, 3), (9, .ifCond .eq 15, 3), (12, .iload_n 2, 1), (13, .ifCond .lt 11, 3), (16, .iload_n 2, 1), (17, .aload_n 0, 1), (18, .getfield 120, 3), (21, .if_icmp .le 6, 3), (24, .bipush (-2), 2), (26, .ireturn, 1), (27, .aload_n 0, 1), (28, .getfield 65, 3), (31, .iload_n 1, 1), (32, .iconst 4, 1), (33, .invokevirtual 139, 3), (36, .iload_n 2, 1), (37, .if_icmp .le 5, 3), (40, .iconst (-1), 1), (41, .ireturn, 1), (42, .aload_n 0, 1), (43, .getfield 65, 3), (46, .iload_n 1, 1), (47, .iconst 2, 1), (48, .invokevirtual 139, 3), (51, .istore_n 3, 1), (52, .iconst 0, 1), (53, .istore 4, 2), (55, .iload 4, 2), (57, .aload_n 0, 1), (58, .getfield 68, 3), (61, .getfield 155, 3), (64, .if_icmp .ge 68, 3), (67, .aload_n 0, 1), (68, .getfield 68, 3), (71, .iload 4, 2), (73, .iconst 0, 1), (74, .invokevirtual 139, 3), (77, .iload_n 2, 1), (78, .if_icmp .gt 54, 3), (81, .aload_n 0, 1), (82, .getfield 68, 3), (85, .iload 4, 2), (87, .iconst 2, 1), (88, .invokevirtual 139, 3), (91, .iload_n 1, 1), (92, .if_icmp .ne 34, 3), (95, .aload_n 0, 1), (96, .getfield 68, 3), (99, .iload 4, 2), (101, .iconst 3, 1), (102, .invokevirtual 139, 3), (105, .iconst 3, 1), (106, .if_icmp .ne 7, 3), (109, .iconst 0, 1), (110, .goto 15, 3), (113, .iload_n 3, 1)] : List (Nat × Instr × Nat)).all (fun r => decide (decode cX6_as r.1 = .ok r.2)) = true := by decide +kernel
theorem dX6_as_0 : decode cX6_as 0 = .ok (.aload_n 0, 1) := of_row (r := (0, .aload_n 0, 1)) DX6_as_b0 0 rfl
theorem dX6_as_1 : decode cX6_as 1 = .ok (.getfield 65, 3) := of_row (r := (1, .getfield 65, 3)) DX6_as_b0 1 rfl
theorem dX6_as_4 : decode cX6_as 4 = .ok (.iload_n 1, 1) := of_row (r := (4, .iload_n 1, 1)) DX6_as_b0 2 rfl
theorem dX6_as_5 : decode cX6_as 5 = .ok (.iconst 4, 1) := of_row (r := (5, .iconst 4, 1)) DX6_as_b0 3 rfl
theorem dX6_as_6 : decode cX6_as 6 = .ok (.invokevirtual 202, 3) := of_row (r := (6, .invokevirtual 202, 3)) DX6_as_b0 4 rfl
theorem dX6_as_9 : decode cX6_as 9 = .ok (.ifCond .eq 15, 3) := of_row (r := (9, .ifCond .eq 15, 3)) DX6_as_b0 5 rfl
theorem dX6_as_12 : decode cX6_as 12 = .ok (.iload_n 2, 1) := of_row (r := (12, .iload_n 2, 1)) DX6_as_b0 6 rfl
theorem dX6_as_13 : decode cX6_as 13 = .ok (.ifCond .lt 11, 3) := of_row (r := (13, .ifCond .lt 11, 3)) DX6_as_b0 7 rfl
theorem dX6_as_16 : decode cX6_as 16 = .ok (.iload_n 2, 1) := of_row (r := (16, .iload_n 2, 1)) DX6_as_b0 8 rfl
theorem dX6_as_17 : decode cX6_as 17 = .ok (.aload_n 0, 1) := of_row (r := (17, .aload_n 0, 1)) DX6_as_b0 9 rfl
theorem dX6_as_18 : decode cX6_as 18 = .ok (.getfield 120, 3) := of_row (r := (18, .getfield 120, 3)) DX6_as_b0 10 rfl
theorem dX6_as_21 : decode cX6_as 21 = .ok (.if_icmp .le 6, 3) := of_row (r := (21, .if_icmp .le 6, 3)) DX6_as_b0 11 rfl
theorem dX6_as_24 : decode cX6_as 24 = .ok (.bipush (-2), 2) := of_row (r := (24, .bipush (-2), 2)) DX6_as_b0 12 rfl
theorem dX6_as_26 : decode cX6_as 26 = .ok (.ireturn, 1) := of_row (r := (26, .ireturn, 1)) DX6_as_b0 13 rfl
theorem dX6_as_27 : decode cX6_as 27 = .ok (.aload_n 0, 1) := of_row (r := (27, .aload_n 0, 1)) DX6_as_b0 14 rfl
theorem dX6_as_28 : decode cX6_as 28 = .ok (.getfield 65, 3) := of_row (r := (28, .getfield 65, 3)) DX6_as_b0 15 rfl
theorem dX6_as_31 : decode cX6_as 31 = .ok (.iload_n 1, 1) := of_row (r := (31, .iload_n 1, 1)) DX6_as_b0 16 rfl
theorem dX6_as_32 : decode cX6_as 32 = .ok (.iconst 4, 1) := of_row (r := (32, .iconst 4, 1)) DX6_as_b0 17 rfl
theorem dX6_as_33 : decode cX6_as 33 = .ok (.invokevirtual 139, 3) := of_row (r := (33, .invokevirtual 139, 3)) DX6_as_b0 18 rfl
theorem dX6_as_36 : decode cX6_as 36 = .ok (.iload_n 2, 1) := of_row (r := (36, .iload_n 2, 1)) DX6_as_b0 19 rfl
theorem dX6_as_37 : decode cX6_as 37 = .ok (.if_icmp .le 5, 3) := of_row (r := (37, .if_icmp .le 5, 3)) DX6_as_b0 20 rfl
theorem dX6_as_40 : decode cX6_as 40 = .ok (.iconst (-1), 1) := of_row (r := (40, .iconst (-1), 1)) DX6_as_b0 21 rfl
theorem dX6_as_41 : decode cX6_as 41 = .ok (.ireturn, 1) := of_row (r := (41, .ireturn, 1)) DX6_as_b0 22 rfl
theorem dX6_as_42 : decode cX6_as 42 = .ok (.aload_n 0, 1) := of_row (r := (42, .aload_n 0, 1)) DX6_as_b0 23 rfl
theorem dX6_as_43 : decode cX6_as 43 = .ok (.getfield 65, 3) := of_row (r := (43, .getfield 65, 3)) DX6_as_b0 24 rfl
theorem dX6_as_46 : decode cX6_as 46 = .ok (.iload_n 1, 1) := of_row (r := (46, .iload_n 1, 1)) DX6_as_b0 25 rfl
theorem dX6_as_47 : decode cX6_as 47 = .ok (.iconst 2, 1) := of_row (r := (47, .iconst 2, 1)) DX6_as_b0 26 rfl
theorem dX6_as_48 : decode cX6_as 48 = .ok (.invokevirtual 139, 3) := of_row (r := (48, .invokevirtual 139, 3)) DX6_as_b0 27 rfl
theorem dX6_as_51 : decode cX6_as 51 = .ok (.istore_n 3, 1) := of_row (r := (51, .istore_n 3, 1)) DX6_as_b0 28 rfl
theorem dX6_as_52 : decode cX6_as 52 = .ok (.iconst 0, 1) := of_row (r := (52, .iconst 0, 1)) DX6_as_b0 29 rfl
theorem dX6_as_53 : decode cX6_as 53 = .ok (.istore 4, 2) := of_row (r := (53, .istore 4, 2)) DX6_as_b0 30 rfl
theorem dX6_as_55 : decode cX6_as 55 = .ok (.iload 4, 2) := of_row (r := (55, .iload 4, 2)) DX6_as_b0 31 rfl
theorem dX6_as_57 : decode cX6_as 57 = .ok (.aload_n 0, 1) := of_row (r := (57, .aload_n 0, 1)) DX6_as_b0 32 rfl
theorem dX6_as_58 : decode cX6_as 58 = .ok (.getfield 68, 3) := of_row (r := (58, .getfield 68, 3)) DX6_as_b0 33 rfl
theorem dX6_as_61 : decode cX6_as 61 = .ok (.getfield 155, 3) := of_row (r := (61, .getfield 155, 3)) DX6_as_b0 34 rfl
theorem dX6_as_64 : decode cX6_as 64 = .ok (.if_icmp .ge 68, 3) := of_row (r := (64, .if_icmp .ge 68, 3)) DX6_as_b0 35 rfl
theorem dX6_as_67 : decode cX6_as 67 = .ok (.aload_n 0, 1) := of_row (r := (67, .aload_n 0, 1)) DX6_as_b0 36 rfl
theorem dX6_as_68 : decode cX6_as 68 = .ok (.getfield 68, 3) := of_row (r := (68, .getfield 68, 3)) DX6_as_b0 37 rfl
theorem dX6_as_71 : decode cX6_as 71 = .ok (.iload 4, 2) := of_row (r := (71, .iload 4, 2)) DX6_as_b0 38 rfl
theorem dX6_as_73 : decode cX6_as 73 = .ok (.iconst 0, 1) := of_row (r := (73, .iconst 0, 1)) DX6_as_b0 39 rfl
theorem dX6_as_74 : decode cX6_as 74 = .ok (.invokevirtual 139, 3) := of_row (r := (74, .invokevirtual 139, 3)) DX6_as_b0 40 rfl
theorem dX6_as_77 : decode cX6_as 77 = .ok (.iload_n 2, 1) := of_row (r := (77, .iload_n 2, 1)) DX6_as_b0 41 rfl
theorem dX6_as_78 : decode cX6_as 78 = .ok (.if_icmp .gt 54, 3) := of_row (r := (78, .if_icmp .gt 54, 3)) DX6_as_b0 42 rfl
theorem dX6_as_81 : decode cX6_as 81 = .ok (.aload_n 0, 1) := of_row (r := (81, .aload_n 0, 1)) DX6_as_b0 43 rfl
theorem dX6_as_82 : decode cX6_as 82 = .ok (.getfield 68, 3) := of_row (r := (82, .getfield 68, 3)) DX6_as_b0 44 rfl
theorem dX6_as_85 : decode cX6_as 85 = .ok (.iload 4, 2) := of_row (r := (85, .iload 4, 2)) DX6_as_b0 45 rfl
theorem dX6_as_87 : decode cX6_as 87 = .ok (.iconst 2, 1) := of_row (r := (87, .iconst 2, 1)) DX6_as_b0 46 rfl
theorem dX6_as_88 : decode cX6_as 88 = .ok (.invokevirtual 139, 3) := of_row (r := (88, .invokevirtual 139, 3)) DX6_as_b0 47 rfl
theorem dX6_as_91 : decode cX6_as 91 = .ok (.iload_n 1, 1) := of_row (r := (91, .iload_n 1, 1)) DX6_as_b0 48 rfl
theorem dX6_as_92 : decode cX6_as 92 = .ok (.if_icmp .ne 34, 3) := of_row (r := (92, .if_icmp .ne 34, 3)) DX6_as_b0 49 rfl
theorem dX6_as_95 : decode cX6_as 95 = .ok (.aload_n 0, 1) := of_row (r := (95, .aload_n 0, 1)) DX6_as_b0 50 rfl
theorem dX6_as_96 : decode cX6_as 96 = .ok (.getfield 68, 3) := of_row (r := (96, .getfield 68, 3)) DX6_as_b0 51 rfl
theorem dX6_as_99 : decode cX6_as 99 = .ok (.iload 4, 2) := of_row (r := (99, .iload 4, 2)) DX6_as_b0 52 rfl
theorem dX6_as_101 : decode cX6_as 101 = .ok (.iconst 3, 1) := of_row (r := (101, .iconst 3, 1)) DX6_as_b0 53 rfl
theorem dX6_as_102 : decode cX6_as 102 = .ok (.invokevirtual 139, 3) := of_row (r := (102, .invokevirtual 139, 3)) DX6_as_b0 54 rfl
theorem dX6_as_105 : decode cX6_as 105 = .ok (.iconst 3, 1) := of_row (r := (105, .iconst 3, 1)) DX6_as_b0 55 rfl
theorem dX6_as_106 : decode cX6_as 106 = .ok (.if_icmp .ne 7, 3) := of_row (r := (106, .if_icmp .ne 7, 3)) DX6_as_b0 56 rfl
theorem dX6_as_109 : decode cX6_as 109 = .ok (.iconst 0, 1) := of_row (r := (109, .iconst 0, 1)) DX6_as_b0 57 rfl
theorem dX6_as_110 : decode cX6_as 110 = .ok (.goto 15, 3) := of_row (r := (110, .goto 15, 3)) DX6_as_b0 58 rfl
theorem dX6_as_113 : decode cX6_as 113 = .ok (.iload_n 3, 1) := of_row (r := (113, .iload_n 3, 1)) DX6_as_b0 59 rfl
set_option maxRecDepth 20000 in
theorem DX6_as_b1 : ([(114, .aload_n 0, 1), (115, .getfield 68, 3), (118, .iload 4, 2), (120, .iconst 4, 1), (121, .invokevirtual 139, 3), (124, .isub, 1), (125, .istore_n 3, 1), (126, .iinc 4 1, 3), (129, .goto (-74), 3), (132, .iload_n 3, 1), (133, .ireturn, 1)] : List (Nat × Instr × Nat)).all (fun r => decide (decode cX6_as r.1 = .ok r.2)) = true := by decide +kernel
theorem dX6_as_114 : decode cX6_as 114 = .ok (.aload_n 0, 1) := of_row (r := (114, .aload_n 0, 1)) DX6_as_b1 0 rfl
theorem dX6_as_115 : decode cX6_as 115 = .ok (.getfield 68, 3) := of_row (r := (115, .getfield 68, 3)) DX6_as_b1 1 rfl
theorem dX6_as_118 : decode cX6_as 118 = .ok (.iload 4, 2) := of_row (r := (118, .iload 4, 2)) DX6_as_b1 2 rfl
theorem dX6_as_120 : decode cX6_as 120 = .ok (.iconst 4, 1) := of_row (r := (120, .iconst 4, 1)) DX6_as_b1 3 rfl
theorem dX6_as_121 : decode cX6_as 121 = .ok (.invokevirtual 139, 3) := of_row (r := (121, .invokevirtual 139, 3)) DX6_as_b1 4 rfl
theorem dX6_as_124 : decode cX6_as 124 = .ok (.isub, 1) := of_row (r := (124, .isub, 1)) DX6_as_b1 5 rfl
theorem dX6_as_125 : decode cX6_as 125 = .ok (.istore_n 3, 1) := of_row (r := (125, .istore_n 3, 1)) DX6_as_b1 6 rfl
theorem dX6_as_126 : decode cX6_as 126 = .ok (.iinc 4 1, 3) := of_row (r := (126, .iinc 4 1, 3)) DX6_as_b1 7 rfl
theorem dX6_as_129 : decode cX6_as 129 = .ok (.goto (-74), 3) := of_row (r := (129, .goto (-74), 3)) DX6_as_b1 8 rfl
theorem dX6_as_132 : decode cX6_as 132 = .ok (.iload_n 3, 1) := of_row (r := (132, .iload_n 3, 1)) DX6_as_b1 9 rfl
theorem dX6_as_133 : decode cX6_as 133 = .ok (.ireturn, 1) := of_row (r := (133, .ireturn, 1)) DX6_as_b1 10 rfl
set_option maxRecDepth 20000 in
theorem DX6_stick_b0 : ([(0, .aload_n 0, 1), (1, .getfield 71, 3), (4, .iload_n 1, 1), (5, .iconst 0, 1), (6, .invokevirtual 202, 3), (9, .ifCond .eq 14, 3), (12, .iload_n 2, 1), (13, .iconst (-1), 1), (14, .if_icmp .lt 9, 3), (17, .iload_n 2, 1), (18, .bipush 6, 2), (20, .if_icmp .lt 5, 3), (23, .iconst (-1), 1), (24, .ireturn, 1), (25, .aload_n 0, 1), (26, .getfield 71, 3), (29, .iload_n 1, 1), (30, .iconst 0, 1), (31, .invokevirtual 139, 3), (34, .istore_n 3, 1), (35, .iload_n 2, 1), (36, .ifCond .ge 7, 3), (39, .iload_n 3, 1), (40, .goto 8, 3), (43, .iload_n 3, 1), (44, .iload_n 2, 1), (45, .invokestatic 236, 3), (48, .ireturn, 1)] : List (Nat × Instr × Nat)).all (fun r => decide (decode cX6_stick r.1 = .ok r.2)) = true := by decide +kernel
theorem dX6_stick_0 : decode cX6_stick 0 = .ok (.aload_n 0, 1) := of_row (r := (0, .aload_n 0, 1)) DX6_stick_b0 0 rfl
theorem dX6_stick_1 : decode cX6_stick 1 = .ok (.getfield 71, 3) := of_row (r := (1, .getfield 71, 3)) DX6_stick_b0 1 rfl
theorem dX6_stick_4 : decode cX6_stick 4 = .ok (.iload_n 1, 1) := of_row (r := (4, .iload_n 1, 1)) DX6_stick_b0 2 rfl
theorem dX6_stick_5 : decode cX6_stick 5 = .ok (.iconst 0, 1) := of_row (r := (5, .iconst 0, 1)) DX6_stick_b0 3 rfl
theorem dX6_stick_6 : decode cX6_stick 6 = .ok (.invokevirtual 202, 3) := of_row (r := (6, .invokevirtual 202, 3)) DX6_stick_b0 4 rfl
theorem dX6_stick_9 : decode cX6_stick 9 = .ok (.ifCond .eq 14, 3) := of_row (r := (9, .ifCond .eq 14, 3)) DX6_stick_b0 5 rfl
theorem dX6_stick_12 : decode cX6_stick 12 = .ok (.iload_n 2, 1) := of_row (r := (12, .iload_n 2, 1)) DX6_stick_b0 6 rfl
theorem dX6_stick_13 : decode cX6_stick 13 = .ok (.iconst (-1), 1) := of_row (r := (13, .iconst (-1), 1)) DX6_stick_b0 7 rfl
theorem dX6_stick_14 : decode cX6_stick 14 = .ok (.if_icmp .lt 9, 3) := of_row (r := (14, .if_icmp .lt 9, 3)) DX6_stick_b0 8 rfl
theorem dX6_stick_17 : decode cX6_stick 17 = .ok (.iload_n 2, 1) := of_row (r := (17, .iload_n 2, 1)) DX6_stick_b0 9 rfl
theorem dX6_stick_18 : decode cX6_stick 18 = .ok (.bipush 6, 2) := of_row (r := (18, .bipush 6, 2)) DX6_stick_b0 10 rfl
theorem dX6_stick_20 : decode cX6_stick 20 = .ok (.if_icmp .lt 5, 3) := of_row (r := (20, .if_icmp .lt 5, 3)) DX6_stick_b0 11 rfl
theorem dX6_stick_23 : decode cX6_stick 23 = .ok (.iconst (-1), 1) := of_row (r := (23, .iconst (-1), 1)) DX6_stick_b0 12 rfl
theorem dX6_stick_24 : decode cX6_stick 24 = .ok (.ireturn, 1) := of_row (r := (24, .ireturn, 1)) DX6_stick_b0 13 rfl
theorem dX6_stick_25 : decode cX6_stick 25 = .ok (.aload_n 0, 1) := of_row (r := (25, .aload_n 0, 1)) DX6_stick_b0 14 rfl
theorem dX6_stick_26 : decode cX6_stick 26 = .ok (.getfield 71, 3) := of_row (r := (26, .getfield 71, 3)) DX6_stick_b0 15 rfl
theorem dX6_stick_29 : decode cX6_stick 29 = .ok (.iload_n 1, 1) := of_row (r := (29, .iload_n 1, 1)) DX6_stick_b0 16 rfl
theorem dX6_stick_30 : decode cX6_stick 30 = .ok (.iconst 0, 1) := of_row (r := (30, .iconst 0, 1)) DX6_stick_b0 17 rfl
theorem dX6_stick_31 : decode cX6_stick 31 = .ok (.invokevirtual 139, 3) := of_row (r := (31, .invokevirtual 139, 3)) DX6_stick_b0 18 rfl
theorem dX6_stick_34 : decode cX6_stick 34 = .ok (.istore_n 3, 1) := of_row (r := (34, .istore_n 3, 1)) DX6_stick_b0 19 rfl
theorem dX6_stick_35 : decode cX6_stick 35 = .ok (.iload_n 2, 1) := of_row (r := (35, .iload_n 2, 1)) DX6_stick_b0 20 rfl
theorem dX6_stick_36 : decode cX6_stick 36 = .ok (.ifCond .ge 7, 3) := of_row (r := (36, .ifCond .ge 7, 3)) DX6_stick_b0 21 rfl
theorem dX6_stick_39 : decode cX6_stick 39 = .ok (.iload_n 3, 1) := of_row (r := (39, .iload_n 3, 1)) DX6_stick_b0 22 rfl
theorem dX6_stick_40 : decode cX6_stick 40 = .ok (.goto 8, 3) := of_row (r := (40, .goto 8, 3)) DX6_stick_b0 23 rfl
theorem dX6_stick_43 : decode cX6_stick 43 = .ok (.iload_n 3, 1) := of_row (r := (43, .iload_n 3, 1)) DX6_stick_b0 24 rfl
theorem dX6_stick_44 : decode cX6_stick 44 = .ok (.iload_n 2, 1) := of_row (r := (44, .iload_n 2, 1)) DX6_stick_b0 25 rfl
theorem dX6_stick_45 : decode cX6_stick 45 = .ok (.invokestatic 236, 3) := of_row (r := (45, .invokestatic 236, 3)) DX6_stick_b0 26 rfl
theorem dX6_stick_48 : decode cX6_stick 48 = .ok (.ireturn, 1) := of_row (r := (48, .ireturn, 1)) DX6_stick_b0 27 rfl
set_option maxRecDepth 20000 in
theorem DX6_fits_b0 : ([(0, .aload_n 0, 1), (1, .getfield 71, 3), (4, .iload_n 1, 1), (5, .iconst 0, 1), (6, .invokevirtual 202, 3), (9, .ifCond .eq 13, 3), (12, .iload_n 2, 1), (13, .ifCond .lt 9, 3), (16, .iload_n 2, 1), (17, .ldc 138, 2), (19, .if_icmp .le 5, 3), (22, .iconst (-1), 1), (23, .ireturn, 1), (24, .aload_n 0, 1), (25, .getfield 71, 3), (28, .iload_n 1, 1), (29, .iconst 0, 1), (30, .invokevirtual 139, 3), (33, .istore_n 3, 1), (34, .iconst 0, 1), (35, .istore 4, 2), (37, .iload 4, 2), (39, .bipush 6, 2), (41, .if_icmp .ge 27, 3), (44, .iload_n 3, 1), (45, .iload 4, 2), (47, .invokestatic 236, 3), (50, .iload_n 2, 1), (51, .iload 4, 2), (53, .invokestatic 236, 3), (56, .if_icmp .eq 6, 3), (59, .iload 4, 2), (61, .ireturn, 1), (62, .iinc 4 1, 3), (65, .goto (-28), 3), (68, .bipush 6, 2), (70, .ireturn, 1)] : List (Nat × Instr × Nat)).all (fun r => decide (decode cX6_fits r.1 = .ok r.2)) = true := by decide +kernel
theorem dX6_fits_0 : decode cX6_fits 0 = .ok (.aload_n 0, 1) := of_row (r := (0, .aload_n 0, 1)) DX6_fits_b0 0 rfl
theorem dX6_fits_1 : decode cX6_fits 1 = .ok (.getfield 71, 3) := of_row (r := (1, .getfield 71, 3)) DX6_fits_b0 1 rfl
theorem dX6_fits_4 : decode cX6_fits 4 = .ok (.iload_n 1, 1) := of_row (r := (4, .iload_n 1, 1)) DX6_fits_b0 2 rfl
theorem dX6_fits_5 : decode cX6_fits 5 = .ok (.iconst 0, 1) := of_row (r := (5, .iconst 0, 1)) DX6_fits_b0 3 rfl
theorem dX6_fits_6 : decode cX6_fits 6 = .ok (.invokevirtual 202, 3) := of_row (r := (6, .invokevirtual 202, 3)) DX6_fits_b0 4 rfl
theorem dX6_fits_9 : decode cX6_fits 9 = .ok (.ifCond .eq 13, 3) := of_row (r := (9, .ifCond .eq 13, 3)) DX6_fits_b0 5 rfl
theorem dX6_fits_12 : decode cX6_fits 12 = .ok (.iload_n 2, 1) := of_row (r := (12, .iload_n 2, 1)) DX6_fits_b0 6 rfl
theorem dX6_fits_13 : decode cX6_fits 13 = .ok (.ifCond .lt 9, 3) := of_row (r := (13, .ifCond .lt 9, 3)) DX6_fits_b0 7 rfl
theorem dX6_fits_16 : decode cX6_fits 16 = .ok (.iload_n 2, 1) := of_row (r := (16, .iload_n 2, 1)) DX6_fits_b0 8 rfl
theorem dX6_fits_17 : decode cX6_fits 17 = .ok (.ldc 138, 2) := of_row (r := (17, .ldc 138, 2)) DX6_fits_b0 9 rfl
theorem dX6_fits_19 : decode cX6_fits 19 = .ok (.if_icmp .le 5, 3) := of_row (r := (19, .if_icmp .le 5, 3)) DX6_fits_b0 10 rfl
theorem dX6_fits_22 : decode cX6_fits 22 = .ok (.iconst (-1), 1) := of_row (r := (22, .iconst (-1), 1)) DX6_fits_b0 11 rfl
theorem dX6_fits_23 : decode cX6_fits 23 = .ok (.ireturn, 1) := of_row (r := (23, .ireturn, 1)) DX6_fits_b0 12 rfl
theorem dX6_fits_24 : decode cX6_fits 24 = .ok (.aload_n 0, 1) := of_row (r := (24, .aload_n 0, 1)) DX6_fits_b0 13 rfl
theorem dX6_fits_25 : decode cX6_fits 25 = .ok (.getfield 71, 3) := of_row (r := (25, .getfield 71, 3)) DX6_fits_b0 14 rfl
theorem dX6_fits_28 : decode cX6_fits 28 = .ok (.iload_n 1, 1) := of_row (r := (28, .iload_n 1, 1)) DX6_fits_b0 15 rfl
theorem dX6_fits_29 : decode cX6_fits 29 = .ok (.iconst 0, 1) := of_row (r := (29, .iconst 0, 1)) DX6_fits_b0 16 rfl
theorem dX6_fits_30 : decode cX6_fits 30 = .ok (.invokevirtual 139, 3) := of_row (r := (30, .invokevirtual 139, 3)) DX6_fits_b0 17 rfl
theorem dX6_fits_33 : decode cX6_fits 33 = .ok (.istore_n 3, 1) := of_row (r := (33, .istore_n 3, 1)) DX6_fits_b0 18 rfl
theorem dX6_fits_34 : decode cX6_fits 34 = .ok (.iconst 0, 1) := of_row (r := (34, .iconst 0, 1)) DX6_fits_b0 19 rfl
theorem dX6_fits_35 : decode cX6_fits 35 = .ok (.istore 4, 2) := of_row (r := (35, .istore 4, 2)) DX6_fits_b0 20 rfl
theorem dX6_fits_37 : decode cX6_fits 37 = .ok (.iload 4, 2) := of_row (r := (37, .iload 4, 2)) DX6_fits_b0 21 rfl
theorem dX6_fits_39 : decode cX6_fits 39 = .ok (.bipush 6, 2) := of_row (r := (39, .bipush 6, 2)) DX6_fits_b0 22 rfl
theorem dX6_fits_41 : decode cX6_fits 41 = .ok (.if_icmp .ge 27, 3) := of_row (r := (41, .if_icmp .ge 27, 3)) DX6_fits_b0 23 rfl
theorem dX6_fits_44 : decode cX6_fits 44 = .ok (.iload_n 3, 1) := of_row (r := (44, .iload_n 3, 1)) DX6_fits_b0 24 rfl
theorem dX6_fits_45 : decode cX6_fits 45 = .ok (.iload 4, 2) := of_row (r := (45, .iload 4, 2)) DX6_fits_b0 25 rfl
theorem dX6_fits_47 : decode cX6_fits 47 = .ok (.invokestatic 236, 3) := of_row (r := (47, .invokestatic 236, 3)) DX6_fits_b0 26 rfl
theorem dX6_fits_50 : decode cX6_fits 50 = .ok (.iload_n 2, 1) := of_row (r := (50, .iload_n 2, 1)) DX6_fits_b0 27 rfl
theorem dX6_fits_51 : decode cX6_fits 51 = .ok (.iload 4, 2) := of_row (r := (51, .iload 4, 2)) DX6_fits_b0 28 rfl
theorem dX6_fits_53 : decode cX6_fits 53 = .ok (.invokestatic 236, 3) := of_row (r := (53, .invokestatic 236, 3)) DX6_fits_b0 29 rfl
theorem dX6_fits_56 : decode cX6_fits 56 = .ok (.if_icmp .eq 6, 3) := of_row (r := (56, .if_icmp .eq 6, 3)) DX6_fits_b0 30 rfl
theorem dX6_fits_59 : decode cX6_fits 59 = .ok (.iload 4, 2) := of_row (r := (59, .iload 4, 2)) DX6_fits_b0 31 rfl
theorem dX6_fits_61 : decode cX6_fits 61 = .ok (.ireturn, 1) := of_row (r := (61, .ireturn, 1)) DX6_fits_b0 32 rfl
theorem dX6_fits_62 : decode cX6_fits 62 = .ok (.iinc 4 1, 3) := of_row (r := (62, .iinc 4 1, 3)) DX6_fits_b0 33 rfl
theorem dX6_fits_65 : decode cX6_fits 65 = .ok (.goto (-28), 3) := of_row (r := (65, .goto (-28), 3)) DX6_fits_b0 34 rfl
theorem dX6_fits_68 : decode cX6_fits 68 = .ok (.bipush 6, 2) := of_row (r := (68, .bipush 6, 2)) DX6_fits_b0 35 rfl
theorem dX6_fits_70 : decode cX6_fits 70 = .ok (.ireturn, 1) := of_row (r := (70, .ireturn, 1)) DX6_fits_b0 36 rfl
set_option maxRecDepth 20000 in
theorem DX6_lay_b0 : ([(0, .iload_n 1, 1), (1, .invokestatic 169, 3), (4, .ifCond .eq 14, 3), (7, .aload_n 0, 1), (8, .getfield 77, 3), (11, .iload_n 1, 1), (12, .invokevirtual 239, 3), (15, .goto 4, 3), (18, .iconst (-1), 1), (19, .ireturn, 1)] : List (Nat × Instr × Nat)).all (fun r => decide (decode cX6_lay r.1 = .ok r.2)) = true := by decide +kernel
theorem dX6_lay_0 : decode cX6_lay 0 = .ok (.iload_n 1, 1) := of_row (r := (0, .iload_n 1, 1)) DX6_lay_b0 0 rfl
theorem dX6_lay_1 : decode cX6_lay 1 = .ok (.invokestatic 169, 3) := of_row (r := (1, .invokestatic 169, 3)) DX6_lay_b0 1 rfl
theorem dX6_lay_4 : decode cX6_lay 4 = .ok (.ifCond .eq 14, 3) := of_row (r := (4, .ifCond .eq 14, 3)) DX6_lay_b0 2 rfl
theorem dX6_lay_7 : decode cX6_lay 7 = .ok (.aload_n 0, 1) := of_row (r := (7, .aload_n 0, 1)) DX6_lay_b0 3 rfl
theorem dX6_lay_8 : decode cX6_lay 8 = .ok (.getfield 77, 3) := of_row (r := (8, .getfield 77, 3)) DX6_lay_b0 4 rfl
theorem dX6_lay_11 : decode cX6_lay 11 = .ok (.iload_n 1, 1) := of_row (r := (11, .iload_n 1, 1)) DX6_lay_b0 5 rfl
theorem dX6_lay_12 : decode cX6_lay 12 = .ok (.invokevirtual 239, 3) := of_row (r := (12, .invokevirtual 239, 3)) DX6_lay_b0 6 rfl
theorem dX6_lay_15 : decode cX6_lay 15 = .ok (.goto 4, 3) := of_row (r := (15, .goto 4, 3)) DX6_lay_b0 7 rfl
theorem dX6_lay_18 : decode cX6_lay 18 = .ok (.iconst (-1), 1) := of_row (r := (18, .iconst (-1), 1)) DX6_lay_b0 8 rfl
theorem dX6_lay_19 : decode cX6_lay 19 = .ok (.ireturn, 1) := of_row (r := (19, .ireturn, 1)) DX6_lay_b0 9 rfl
set_option maxRecDepth 20000 in
theorem DX6_take_b0 : ([(0, .iload_n 1, 1), (1, .invokestatic 169, 3), (4, .ifCond .ne 5, 3), (7, .iconst (-1), 1), (8, .ireturn, 1), (9, .iload_n 1, 1), (10, .i2l, 1), (11, .aload_n 0, 1), (12, .getfield 77, 3), (15, .invokevirtual 242, 3), (18, .lcmp, 1), (19, .ifCond .le 8, 3), (22, .bipush (-2), 2), (24, .goto 11, 3), (27, .aload_n 0, 1), (28, .getfield 77, 3), (31, .iload_n 1, 1), (32, .invokevirtual 246, 3), (35, .ireturn, 1)] : List (Nat × Instr × Nat)).all (fun r => decide (decode cX6_take r.1 = .ok r.2)) = true := by decide +kernel
theorem dX6_take_0 : decode cX6_take 0 = .ok (.iload_n 1, 1) := of_row (r := (0, .iload_n 1, 1)) DX6_take_b0 0 rfl
theorem dX6_take_1 : decode cX6_take 1 = .ok (.invokestatic 169, 3) := of_row (r := (1, .invokestatic 169, 3)) DX6_take_b0 1 rfl
theorem dX6_take_4 : decode cX6_take 4 = .ok (.ifCond .ne 5, 3) := of_row (r := (4, .ifCond .ne 5, 3)) DX6_take_b0 2 rfl
theorem dX6_take_7 : decode cX6_take 7 = .ok (.iconst (-1), 1) := of_row (r := (7, .iconst (-1), 1)) DX6_take_b0 3 rfl
theorem dX6_take_8 : decode cX6_take 8 = .ok (.ireturn, 1) := of_row (r := (8, .ireturn, 1)) DX6_take_b0 4 rfl
theorem dX6_take_9 : decode cX6_take 9 = .ok (.iload_n 1, 1) := of_row (r := (9, .iload_n 1, 1)) DX6_take_b0 5 rfl
theorem dX6_take_10 : decode cX6_take 10 = .ok (.i2l, 1) := of_row (r := (10, .i2l, 1)) DX6_take_b0 6 rfl
theorem dX6_take_11 : decode cX6_take 11 = .ok (.aload_n 0, 1) := of_row (r := (11, .aload_n 0, 1)) DX6_take_b0 7 rfl
theorem dX6_take_12 : decode cX6_take 12 = .ok (.getfield 77, 3) := of_row (r := (12, .getfield 77, 3)) DX6_take_b0 8 rfl
theorem dX6_take_15 : decode cX6_take 15 = .ok (.invokevirtual 242, 3) := of_row (r := (15, .invokevirtual 242, 3)) DX6_take_b0 9 rfl
theorem dX6_take_18 : decode cX6_take 18 = .ok (.lcmp, 1) := of_row (r := (18, .lcmp, 1)) DX6_take_b0 10 rfl
theorem dX6_take_19 : decode cX6_take 19 = .ok (.ifCond .le 8, 3) := of_row (r := (19, .ifCond .le 8, 3)) DX6_take_b0 11 rfl
theorem dX6_take_22 : decode cX6_take 22 = .ok (.bipush (-2), 2) := of_row (r := (22, .bipush (-2), 2)) DX6_take_b0 12 rfl
theorem dX6_take_24 : decode cX6_take 24 = .ok (.goto 11, 3) := of_row (r := (24, .goto 11, 3)) DX6_take_b0 13 rfl
theorem dX6_take_27 : decode cX6_take 27 = .ok (.aload_n 0, 1) := of_row (r := (27, .aload_n 0, 1)) DX6_take_b0 14 rfl
theorem dX6_take_28 : decode cX6_take 28 = .ok (.getfield 77, 3) := of_row (r := (28, .getfield 77, 3)) DX6_take_b0 15 rfl
theorem dX6_take_31 : decode cX6_take 31 = .ok (.iload_n 1, 1) := of_row (r := (31, .iload_n 1, 1)) DX6_take_b0 16 rfl
theorem dX6_take_32 : decode cX6_take 32 = .ok (.invokevirtual 246, 3) := of_row (r := (32, .invokevirtual 246, 3)) DX6_take_b0 17 rfl
theorem dX6_take_35 : decode cX6_take 35 = .ok (.ireturn, 1) := of_row (r := (35, .ireturn, 1)) DX6_take_b0 18 rfl
set_option maxRecDepth 20000 in
theorem DX6_cloth_b0 : ([(0, .iload_n 1, 1), (1, .ifCond .lt 9, 3), (4, .iload_n 1, 1), (5, .bipush 6, 2), (7, .if_icmp .lt 7, 3), (10, .iconst (-1), 1), (11, .goto 12, 3), (14, .aload_n 0, 1), (15, .getfield 77, 3), (18, .getfield 249, 3), (21, .iload_n 1, 1), (22, .iaload, 1), (23, .ireturn, 1)] : List (Nat × Instr × Nat)).all (fun r => decide (decode cX6_cloth r.1 = .ok r.2)) = true := by decide +kernel
theorem dX6_cloth_0 : decode cX6_cloth 0 = .ok (.iload_n 1, 1) := of_row (r := (0, .iload_n 1, 1)) DX6_cloth_b0 0 rfl
theorem dX6_cloth_1 : decode cX6_cloth 1 = .ok (.ifCond .lt 9, 3) := of_row (r := (1, .ifCond .lt 9, 3)) DX6_cloth_b0 1 rfl
theorem dX6_cloth_4 : decode cX6_cloth 4 = .ok (.iload_n 1, 1) := of_row (r := (4, .iload_n 1, 1)) DX6_cloth_b0 2 rfl
theorem dX6_cloth_5 : decode cX6_cloth 5 = .ok (.bipush 6, 2) := of_row (r := (5, .bipush 6, 2)) DX6_cloth_b0 3 rfl
theorem dX6_cloth_7 : decode cX6_cloth 7 = .ok (.if_icmp .lt 7, 3) := of_row (r := (7, .if_icmp .lt 7, 3)) DX6_cloth_b0 4 rfl
theorem dX6_cloth_10 : decode cX6_cloth 10 = .ok (.iconst (-1), 1) := of_row (r := (10, .iconst (-1), 1)) DX6_cloth_b0 5 rfl
theorem dX6_cloth_11 : decode cX6_cloth 11 = .ok (.goto 12, 3) := of_row (r := (11, .goto 12, 3)) DX6_cloth_b0 6 rfl
theorem dX6_cloth_14 : decode cX6_cloth 14 = .ok (.aload_n 0, 1) := of_row (r := (14, .aload_n 0, 1)) DX6_cloth_b0 7 rfl
theorem dX6_cloth_15 : decode cX6_cloth 15 = .ok (.getfield 77, 3) := of_row (r := (15, .getfield 77, 3)) DX6_cloth_b0 8 rfl
theorem dX6_cloth_18 : decode cX6_cloth 18 = .ok (.getfield 249, 3) := of_row (r := (18, .getfield 249, 3)) DX6_cloth_b0 9 rfl
theorem dX6_cloth_21 : decode cX6_cloth 21 = .ok (.iload_n 1, 1) := of_row (r := (21, .iload_n 1, 1)) DX6_cloth_b0 10 rfl
theorem dX6_cloth_22 : decode cX6_cloth 22 = .ok (.iaload, 1) := of_row (r := (22, .iaload, 1)) DX6_cloth_b0 11 rfl
theorem dX6_cloth_23 : decode cX6_cloth 23 = .ok (.ireturn, 1) := of_row (r := (23, .ireturn, 1)) DX6_cloth_b0 12 rfl
set_option maxRecDepth 20000 in
theorem DX6_sum_b0 : ([(0, .iload_n 1, 1), (1, .tableswitch 94 0 6 #[43, 51, 56, 61, 70, 80, 89], 43), (44, .aload_n 0, 1), (45, .getfield 77, 3), (48, .invokevirtual 242, 3), (51, .lreturn, 1), (52, .aload_n 0, 1), (53, .getfield 233, 3), (56, .lreturn, 1), (57, .aload_n 0, 1), (58, .invokevirtual 252, 3), (61, .lreturn, 1), (62, .aload_n 0, 1), (63, .getfield 65, 3), (66, .iconst 3, 1), (67, .invokevirtual 255, 3), (70, .lreturn, 1), (71, .aload_n 0, 1), (72, .getfield 65, 3), (75, .bipush 6, 2), (77, .invokevirtual 255, 3), (80, .lreturn, 1), (81, .aload_n 0, 1), (82, .getfield 65, 3), (85, .iconst 2, 1), (86, .invokevirtual 255, 3), (89, .lreturn, 1), (90, .aload_n 0, 1), (91, .getfield 187, 3), (94, .lreturn, 1), (95, .ldc2_w 205, 3), (98, .lreturn, 1)] : List (Nat × Instr × Nat)).all (fun r => decide (decode cX6_sum r.1 = .ok r.2)) = true := by decide +kernel
theorem dX6_sum_0 : decode cX6_sum 0 = .ok (.iload_n 1, 1) := of_row (r := (0, .iload_n 1, 1)) DX6_sum_b0 0 rfl
theorem dX6_sum_1 : decode cX6_sum 1 = .ok (.tableswitch 94 0 6 #[43, 51, 56, 61, 70, 80, 89], 43) := of_row (r := (1, .tableswitch 94 0 6 #[43, 51, 56, 61, 70, 80, 89], 43)) DX6_sum_b0 1 rfl
theorem dX6_sum_44 : decode cX6_sum 44 = .ok (.aload_n 0, 1) := of_row (r := (44, .aload_n 0, 1)) DX6_sum_b0 2 rfl
theorem dX6_sum_45 : decode cX6_sum 45 = .ok (.getfield 77, 3) := of_row (r := (45, .getfield 77, 3)) DX6_sum_b0 3 rfl
theorem dX6_sum_48 : decode cX6_sum 48 = .ok (.invokevirtual 242, 3) := of_row (r := (48, .invokevirtual 242, 3)) DX6_sum_b0 4 rfl
theorem dX6_sum_51 : decode cX6_sum 51 = .ok (.lreturn, 1) := of_row (r := (51, .lreturn, 1)) DX6_sum_b0 5 rfl
theorem dX6_sum_52 : decode cX6_sum 52 = .ok (.aload_n 0, 1) := of_row (r := (52, .aload_n 0, 1)) DX6_sum_b0 6 rfl
theorem dX6_sum_53 : decode cX6_sum 53 = .ok (.getfield 233, 3) := of_row (r := (53, .getfield 233, 3)) DX6_sum_b0 7 rfl
theorem dX6_sum_56 : decode cX6_sum 56 = .ok (.lreturn, 1) := of_row (r := (56, .lreturn, 1)) DX6_sum_b0 8 rfl
theorem dX6_sum_57 : decode cX6_sum 57 = .ok (.aload_n 0, 1) := of_row (r := (57, .aload_n 0, 1)) DX6_sum_b0 9 rfl
theorem dX6_sum_58 : decode cX6_sum 58 = .ok (.invokevirtual 252, 3) := of_row (r := (58, .invokevirtual 252, 3)) DX6_sum_b0 10 rfl
theorem dX6_sum_61 : decode cX6_sum 61 = .ok (.lreturn, 1) := of_row (r := (61, .lreturn, 1)) DX6_sum_b0 11 rfl
theorem dX6_sum_62 : decode cX6_sum 62 = .ok (.aload_n 0, 1) := of_row (r := (62, .aload_n 0, 1)) DX6_sum_b0 12 rfl
theorem dX6_sum_63 : decode cX6_sum 63 = .ok (.getfield 65, 3) := of_row (r := (63, .getfield 65, 3)) DX6_sum_b0 13 rfl
theorem dX6_sum_66 : decode cX6_sum 66 = .ok (.iconst 3, 1) := of_row (r := (66, .iconst 3, 1)) DX6_sum_b0 14 rfl
theorem dX6_sum_67 : decode cX6_sum 67 = .ok (.invokevirtual 255, 3) := of_row (r := (67, .invokevirtual 255, 3)) DX6_sum_b0 15 rfl
theorem dX6_sum_70 : decode cX6_sum 70 = .ok (.lreturn, 1) := of_row (r := (70, .lreturn, 1)) DX6_sum_b0 16 rfl
theorem dX6_sum_71 : decode cX6_sum 71 = .ok (.aload_n 0, 1) := of_row (r := (71, .aload_n 0, 1)) DX6_sum_b0 17 rfl
theorem dX6_sum_72 : decode cX6_sum 72 = .ok (.getfield 65, 3) := of_row (r := (72, .getfield 65, 3)) DX6_sum_b0 18 rfl
theorem dX6_sum_75 : decode cX6_sum 75 = .ok (.bipush 6, 2) := of_row (r := (75, .bipush 6, 2)) DX6_sum_b0 19 rfl
theorem dX6_sum_77 : decode cX6_sum 77 = .ok (.invokevirtual 255, 3) := of_row (r := (77, .invokevirtual 255, 3)) DX6_sum_b0 20 rfl
theorem dX6_sum_80 : decode cX6_sum 80 = .ok (.lreturn, 1) := of_row (r := (80, .lreturn, 1)) DX6_sum_b0 21 rfl
theorem dX6_sum_81 : decode cX6_sum 81 = .ok (.aload_n 0, 1) := of_row (r := (81, .aload_n 0, 1)) DX6_sum_b0 22 rfl
theorem dX6_sum_82 : decode cX6_sum 82 = .ok (.getfield 65, 3) := of_row (r := (82, .getfield 65, 3)) DX6_sum_b0 23 rfl
theorem dX6_sum_85 : decode cX6_sum 85 = .ok (.iconst 2, 1) := of_row (r := (85, .iconst 2, 1)) DX6_sum_b0 24 rfl
theorem dX6_sum_86 : decode cX6_sum 86 = .ok (.invokevirtual 255, 3) := of_row (r := (86, .invokevirtual 255, 3)) DX6_sum_b0 25 rfl
theorem dX6_sum_89 : decode cX6_sum 89 = .ok (.lreturn, 1) := of_row (r := (89, .lreturn, 1)) DX6_sum_b0 26 rfl
theorem dX6_sum_90 : decode cX6_sum 90 = .ok (.aload_n 0, 1) := of_row (r := (90, .aload_n 0, 1)) DX6_sum_b0 27 rfl
theorem dX6_sum_91 : decode cX6_sum 91 = .ok (.getfield 187, 3) := of_row (r := (91, .getfield 187, 3)) DX6_sum_b0 28 rfl
theorem dX6_sum_94 : decode cX6_sum 94 = .ok (.lreturn, 1) := of_row (r := (94, .lreturn, 1)) DX6_sum_b0 29 rfl
theorem dX6_sum_95 : decode cX6_sum 95 = .ok (.ldc2_w 205, 3) := of_row (r := (95, .ldc2_w 205, 3)) DX6_sum_b0 30 rfl
theorem dX6_sum_98 : decode cX6_sum 98 = .ok (.lreturn, 1) := of_row (r := (98, .lreturn, 1)) DX6_sum_b0 31 rfl
set_option maxRecDepth 20000 in
theorem DX6_count_b0 : ([(0, .iload_n 1, 1), (1, .tableswitch 81 0 5 #[39, 47, 55, 63, 68, 73], 39), (40, .aload_n 0, 1), (41, .getfield 65, 3), (44, .getfield 155, 3), (47, .ireturn, 1), (48, .aload_n 0, 1), (49, .getfield 68, 3), (52, .getfield 155, 3), (55, .ireturn, 1), (56, .aload_n 0, 1), (57, .getfield 71, 3), (60, .getfield 155, 3), (63, .ireturn, 1), (64, .aload_n 0, 1), (65, .getfield 99, 3), (68, .ireturn, 1), (69, .aload_n 0, 1), (70, .getfield 120, 3), (73, .ireturn, 1), (74, .aload_n 0, 1), (75, .getfield 10, 3), (78, .getfield 95, 3), (81, .ireturn, 1), (82, .iconst (-1), 1), (83, .ireturn, 1)] : List (Nat × Instr × Nat)).all (fun r => decide (decode cX6_count r.1 = .ok r.2)) = true := by decide +kernel
theorem dX6_count_0 : decode cX6_count 0 = .ok (.iload_n 1, 1) := of_row (r := (0, .iload_n 1, 1)) DX6_count_b0 0 rfl
theorem dX6_count_1 : decode cX6_count 1 = .ok (.tableswitch 81 0 5 #[39, 47, 55, 63, 68, 73], 39) := of_row (r := (1, .tableswitch 81 0 5 #[39, 47, 55, 63, 68, 73], 39)) DX6_count_b0 1 rfl
theorem dX6_count_40 : decode cX6_count 40 = .ok (.aload_n 0, 1) := of_row (r := (40, .aload_n 0, 1)) DX6_count_b0 2 rfl
theorem dX6_count_41 : decode cX6_count 41 = .ok (.getfield 65, 3) := of_row (r := (41, .getfield 65, 3)) DX6_count_b0 3 rfl
theorem dX6_count_44 : decode cX6_count 44 = .ok (.getfield 155, 3) := of_row (r := (44, .getfield 155, 3)) DX6_count_b0 4 rfl
theorem dX6_count_47 : decode cX6_count 47 = .ok (.ireturn, 1) := of_row (r := (47, .ireturn, 1)) DX6_count_b0 5 rfl
theorem dX6_count_48 : decode cX6_count 48 = .ok (.aload_n 0, 1) := of_row (r := (48, .aload_n 0, 1)) DX6_count_b0 6 rfl
theorem dX6_count_49 : decode cX6_count 49 = .ok (.getfield 68, 3) := of_row (r := (49, .getfield 68, 3)) DX6_count_b0 7 rfl
theorem dX6_count_52 : decode cX6_count 52 = .ok (.getfield 155, 3) := of_row (r := (52, .getfield 155, 3)) DX6_count_b0 8 rfl
theorem dX6_count_55 : decode cX6_count 55 = .ok (.ireturn, 1) := of_row (r := (55, .ireturn, 1)) DX6_count_b0 9 rfl
theorem dX6_count_56 : decode cX6_count 56 = .ok (.aload_n 0, 1) := of_row (r := (56, .aload_n 0, 1)) DX6_count_b0 10 rfl
theorem dX6_count_57 : decode cX6_count 57 = .ok (.getfield 71, 3) := of_row (r := (57, .getfield 71, 3)) DX6_count_b0 11 rfl
theorem dX6_count_60 : decode cX6_count 60 = .ok (.getfield 155, 3) := of_row (r := (60, .getfield 155, 3)) DX6_count_b0 12 rfl
theorem dX6_count_63 : decode cX6_count 63 = .ok (.ireturn, 1) := of_row (r := (63, .ireturn, 1)) DX6_count_b0 13 rfl
theorem dX6_count_64 : decode cX6_count 64 = .ok (.aload_n 0, 1) := of_row (r := (64, .aload_n 0, 1)) DX6_count_b0 14 rfl
theorem dX6_count_65 : decode cX6_count 65 = .ok (.getfield 99, 3) := of_row (r := (65, .getfield 99, 3)) DX6_count_b0 15 rfl
theorem dX6_count_68 : decode cX6_count 68 = .ok (.ireturn, 1) := of_row (r := (68, .ireturn, 1)) DX6_count_b0 16 rfl
theorem dX6_count_69 : decode cX6_count 69 = .ok (.aload_n 0, 1) := of_row (r := (69, .aload_n 0, 1)) DX6_count_b0 17 rfl
theorem dX6_count_70 : decode cX6_count 70 = .ok (.getfield 120, 3) := of_row (r := (70, .getfield 120, 3)) DX6_count_b0 18 rfl
theorem dX6_count_73 : decode cX6_count 73 = .ok (.ireturn, 1) := of_row (r := (73, .ireturn, 1)) DX6_count_b0 19 rfl
theorem dX6_count_74 : decode cX6_count 74 = .ok (.aload_n 0, 1) := of_row (r := (74, .aload_n 0, 1)) DX6_count_b0 20 rfl
theorem dX6_count_75 : decode cX6_count 75 = .ok (.getfield 10, 3) := of_row (r := (75, .getfield 10, 3)) DX6_count_b0 21 rfl
theorem dX6_count_78 : decode cX6_count 78 = .ok (.getfield 95, 3) := of_row (r := (78, .getfield 95, 3)) DX6_count_b0 22 rfl
theorem dX6_count_81 : decode cX6_count 81 = .ok (.ireturn, 1) := of_row (r := (81, .ireturn, 1)) DX6_count_b0 23 rfl
theorem dX6_count_82 : decode cX6_count 82 = .ok (.iconst (-1), 1) := of_row (r := (82, .iconst (-1), 1)) DX6_count_b0 24 rfl
theorem dX6_count_83 : decode cX6_count 83 = .ok (.ireturn, 1) := of_row (r := (83, .ireturn, 1)) DX6_count_b0 25 rfl
set_option maxRecDepth 20000 in
theorem DX6_allCredits_b0 : ([(0, .lconst 0, 1), (1, .lstore_n 1, 1), (2, .iconst 0, 1), (3, .istore_n 3, 1), (4, .iload_n 3, 1), (5, .bipush 16, 2), (7, .if_icmp .ge 18, 3), (10, .lload_n 1, 1), (11, .aload_n 0, 1), (12, .getfield 47, 3), (15, .iload_n 3, 1), (16, .laload, 1), (17, .ladd, 1), (18, .lstore_n 1, 1), (19, .iinc 3 1, 3), (22, .goto (-18), 3), (25, .lload_n 1, 1), (26, .lreturn, 1)] : List (Nat × Instr × Nat)).all (fun r => decide (decode cX6_allCredits r.1 = .ok r.2)) = true := by decide +kernel
theorem dX6_allCredits_0 : decode cX6_allCredits 0 = .ok (.lconst 0, 1) := of_row (r := (0, .lconst 0, 1)) DX6_allCredits_b0 0 rfl
theorem dX6_allCredits_1 : decode cX6_allCredits 1 = .ok (.lstore_n 1, 1) := of_row (r := (1, .lstore_n 1, 1)) DX6_allCredits_b0 1 rfl
theorem dX6_allCredits_2 : decode cX6_allCredits 2 = .ok (.iconst 0, 1) := of_row (r := (2, .iconst 0, 1)) DX6_allCredits_b0 2 rfl
theorem dX6_allCredits_3 : decode cX6_allCredits 3 = .ok (.istore_n 3, 1) := of_row (r := (3, .istore_n 3, 1)) DX6_allCredits_b0 3 rfl
theorem dX6_allCredits_4 : decode cX6_allCredits 4 = .ok (.iload_n 3, 1) := of_row (r := (4, .iload_n 3, 1)) DX6_allCredits_b0 4 rfl
theorem dX6_allCredits_5 : decode cX6_allCredits 5 = .ok (.bipush 16, 2) := of_row (r := (5, .bipush 16, 2)) DX6_allCredits_b0 5 rfl
theorem dX6_allCredits_7 : decode cX6_allCredits 7 = .ok (.if_icmp .ge 18, 3) := of_row (r := (7, .if_icmp .ge 18, 3)) DX6_allCredits_b0 6 rfl
theorem dX6_allCredits_10 : decode cX6_allCredits 10 = .ok (.lload_n 1, 1) := of_row (r := (10, .lload_n 1, 1)) DX6_allCredits_b0 7 rfl
theorem dX6_allCredits_11 : decode cX6_allCredits 11 = .ok (.aload_n 0, 1) := of_row (r := (11, .aload_n 0, 1)) DX6_allCredits_b0 8 rfl
theorem dX6_allCredits_12 : decode cX6_allCredits 12 = .ok (.getfield 47, 3) := of_row (r := (12, .getfield 47, 3)) DX6_allCredits_b0 9 rfl
theorem dX6_allCredits_15 : decode cX6_allCredits 15 = .ok (.iload_n 3, 1) := of_row (r := (15, .iload_n 3, 1)) DX6_allCredits_b0 10 rfl
theorem dX6_allCredits_16 : decode cX6_allCredits 16 = .ok (.laload, 1) := of_row (r := (16, .laload, 1)) DX6_allCredits_b0 11 rfl
theorem dX6_allCredits_17 : decode cX6_allCredits 17 = .ok (.ladd, 1) := of_row (r := (17, .ladd, 1)) DX6_allCredits_b0 12 rfl
theorem dX6_allCredits_18 : decode cX6_allCredits 18 = .ok (.lstore_n 1, 1) := of_row (r := (18, .lstore_n 1, 1)) DX6_allCredits_b0 13 rfl
theorem dX6_allCredits_19 : decode cX6_allCredits 19 = .ok (.iinc 3 1, 3) := of_row (r := (19, .iinc 3 1, 3)) DX6_allCredits_b0 14 rfl
theorem dX6_allCredits_22 : decode cX6_allCredits 22 = .ok (.goto (-18), 3) := of_row (r := (22, .goto (-18), 3)) DX6_allCredits_b0 15 rfl
theorem dX6_allCredits_25 : decode cX6_allCredits 25 = .ok (.lload_n 1, 1) := of_row (r := (25, .lload_n 1, 1)) DX6_allCredits_b0 16 rfl
theorem dX6_allCredits_26 : decode cX6_allCredits 26 = .ok (.lreturn, 1) := of_row (r := (26, .lreturn, 1)) DX6_allCredits_b0 17 rfl
set_option maxRecDepth 20000 in
theorem DJ0_length_8abf5_b0 : ([(0, .aload_n 0, 1), (1, .getfield 9, 3), (4, .arraylength, 1), (5, .aload_n 0, 1), (6, .invokevirtual 335, 3), (9, .ishr, 1), (10, .ireturn, 1)] : List (Nat × Instr × Nat)).all (fun r => decide (decode cJ0_length_8abf5 r.1 = .ok r.2)) = true := by decide +kernel
theorem dJ0_length_8abf5_0 : decode cJ0_length_8abf5 0 = .ok (.aload_n 0, 1) := of_row (r := (0, .aload_n 0, 1)) DJ0_length_8abf5_b0 0 rfl
theorem dJ0_length_8abf5_1 : decode cJ0_length_8abf5 1 = .ok (.getfield 9, 3) := of_row (r := (1, .getfield 9, 3)) DJ0_length_8abf5_b0 1 rfl
theorem dJ0_length_8abf5_4 : decode cJ0_length_8abf5 4 = .ok (.arraylength, 1) := of_row (r := (4, .arraylength, 1)) DJ0_length_8abf5_b0 2 rfl
theorem dJ0_length_8abf5_5 : decode cJ0_length_8abf5 5 = .ok (.aload_n 0, 1) := of_row (r := (5, .aload_n 0, 1)) DJ0_length_8abf5_b0 3 rfl
theorem dJ0_length_8abf5_6 : decode cJ0_length_8abf5 6 = .ok (.invokevirtual 335, 3) := of_row (r := (6, .invokevirtual 335, 3)) DJ0_length_8abf5_b0 4 rfl
theorem dJ0_length_8abf5_9 : decode cJ0_length_8abf5 9 = .ok (.ishr, 1) := of_row (r := (9, .ishr, 1)) DJ0_length_8abf5_b0 5 rfl
theorem dJ0_length_8abf5_10 : decode cJ0_length_8abf5 10 = .ok (.ireturn, 1) := of_row (r := (10, .ireturn, 1)) DJ0_length_8abf5_b0 6 rfl
set_option maxRecDepth 20000 in
theorem DJ0_charAt_5068e_b0 : ([(0, .aload_n 0, 1), (1, .invokevirtual 492, 3), (4, .ifCond .eq 12, 3), (7, .aload_n 0, 1), (8, .getfield 9, 3), (11, .iload_n 1, 1), (12, .invokestatic 495, 3), (15, .ireturn, 1), (16, .aload_n 0, 1), (17, .getfield 9, 3), (20, .iload_n 1, 1), (21, .invokestatic 498, 3), (24, .ireturn, 1)] : List (Nat × Instr × Nat)).all (fun r => decide (decode cJ0_charAt_5068e r.1 = .ok r.2)) = true := by decide +kernel
theorem dJ0_charAt_5068e_0 : decode cJ0_charAt_5068e 0 = .ok (.aload_n 0, 1) := of_row (r := (0, .aload_n 0, 1)) DJ0_charAt_5068e_b0 0 rfl
theorem dJ0_charAt_5068e_1 : decode cJ0_charAt_5068e 1 = .ok (.invokevirtual 492, 3) := of_row (r := (1, .invokevirtual 492, 3)) DJ0_charAt_5068e_b0 1 rfl
theorem dJ0_charAt_5068e_4 : decode cJ0_charAt_5068e 4 = .ok (.ifCond .eq 12, 3) := of_row (r := (4, .ifCond .eq 12, 3)) DJ0_charAt_5068e_b0 2 rfl
theorem dJ0_charAt_5068e_7 : decode cJ0_charAt_5068e 7 = .ok (.aload_n 0, 1) := of_row (r := (7, .aload_n 0, 1)) DJ0_charAt_5068e_b0 3 rfl
theorem dJ0_charAt_5068e_8 : decode cJ0_charAt_5068e 8 = .ok (.getfield 9, 3) := of_row (r := (8, .getfield 9, 3)) DJ0_charAt_5068e_b0 4 rfl
theorem dJ0_charAt_5068e_11 : decode cJ0_charAt_5068e 11 = .ok (.iload_n 1, 1) := of_row (r := (11, .iload_n 1, 1)) DJ0_charAt_5068e_b0 5 rfl
theorem dJ0_charAt_5068e_12 : decode cJ0_charAt_5068e 12 = .ok (.invokestatic 495, 3) := of_row (r := (12, .invokestatic 495, 3)) DJ0_charAt_5068e_b0 6 rfl
theorem dJ0_charAt_5068e_15 : decode cJ0_charAt_5068e 15 = .ok (.ireturn, 1) := of_row (r := (15, .ireturn, 1)) DJ0_charAt_5068e_b0 7 rfl
theorem dJ0_charAt_5068e_16 : decode cJ0_charAt_5068e 16 = .ok (.aload_n 0, 1) := of_row (r := (16, .aload_n 0, 1)) DJ0_charAt_5068e_b0 8 rfl
theorem dJ0_charAt_5068e_17 : decode cJ0_charAt_5068e 17 = .ok (.getfield 9, 3) := of_row (r := (17, .getfield 9, 3)) DJ0_charAt_5068e_b0 9 rfl
theorem dJ0_charAt_5068e_20 : decode cJ0_charAt_5068e 20 = .ok (.iload_n 1, 1) := of_row (r := (20, .iload_n 1, 1)) DJ0_charAt_5068e_b0 10 rfl
theorem dJ0_charAt_5068e_21 : decode cJ0_charAt_5068e 21 = .ok (.invokestatic 498, 3) := of_row (r := (21, .invokestatic 498, 3)) DJ0_charAt_5068e_b0 11 rfl
theorem dJ0_charAt_5068e_24 : decode cJ0_charAt_5068e 24 = .ok (.ireturn, 1) := of_row (r := (24, .ireturn, 1)) DJ0_charAt_5068e_b0 12 rfl
set_option maxRecDepth 20000 in
theorem DJ0_coder_7d493_b0 : ([(0, .getstatic 38, 3), (3, .ifCond .eq 10, 3), (6, .aload_n 0, 1), (7, .getfield 15, 3), (10, .goto 4, 3), (13, .iconst 1, 1), (14, .ireturn, 1)] : List (Nat × Instr × Nat)).all (fun r => decide (decode cJ0_coder_7d493 r.1 = .ok r.2)) = true := by decide +kernel
theorem dJ0_coder_7d493_0 : decode cJ0_coder_7d493 0 = .ok (.getstatic 38, 3) := of_row (r := (0, .getstatic 38, 3)) DJ0_coder_7d493_b0 0 rfl
theorem dJ0_coder_7d493_3 : decode cJ0_coder_7d493 3 = .ok (.ifCond .eq 10, 3) := of_row (r := (3, .ifCond .eq 10, 3)) DJ0_coder_7d493_b0 1 rfl
theorem dJ0_coder_7d493_6 : decode cJ0_coder_7d493 6 = .ok (.aload_n 0, 1) := of_row (r := (6, .aload_n 0, 1)) DJ0_coder_7d493_b0 2 rfl
theorem dJ0_coder_7d493_7 : decode cJ0_coder_7d493 7 = .ok (.getfield 15, 3) := of_row (r := (7, .getfield 15, 3)) DJ0_coder_7d493_b0 3 rfl
theorem dJ0_coder_7d493_10 : decode cJ0_coder_7d493 10 = .ok (.goto 4, 3) := of_row (r := (10, .goto 4, 3)) DJ0_coder_7d493_b0 4 rfl
theorem dJ0_coder_7d493_13 : decode cJ0_coder_7d493 13 = .ok (.iconst 1, 1) := of_row (r := (13, .iconst 1, 1)) DJ0_coder_7d493_b0 5 rfl
theorem dJ0_coder_7d493_14 : decode cJ0_coder_7d493 14 = .ok (.ireturn, 1) := of_row (r := (14, .ireturn, 1)) DJ0_coder_7d493_b0 6 rfl
set_option maxRecDepth 20000 in
theorem DJ0_isLatin1_aae02_b0 : ([(0, .getstatic 38, 3), (3, .ifCond .eq 14, 3), (6, .aload_n 0, 1), (7, .getfield 15, 3), (10, .ifCond .ne 7, 3), (13, .iconst 1, 1), (14, .goto 4, 3), (17, .iconst 0, 1), (18, .ireturn, 1)] : List (Nat × Instr × Nat)).all (fun r => decide (decode cJ0_isLatin1_aae02 r.1 = .ok r.2)) = true := by decide +kernel
theorem dJ0_isLatin1_aae02_0 : decode cJ0_isLatin1_aae02 0 = .ok (.getstatic 38, 3) := of_row (r := (0, .getstatic 38, 3)) DJ0_isLatin1_aae02_b0 0 rfl
theorem dJ0_isLatin1_aae02_3 : decode cJ0_isLatin1_aae02 3 = .ok (.ifCond .eq 14, 3) := of_row (r := (3, .ifCond .eq 14, 3)) DJ0_isLatin1_aae02_b0 1 rfl
theorem dJ0_isLatin1_aae02_6 : decode cJ0_isLatin1_aae02 6 = .ok (.aload_n 0, 1) := of_row (r := (6, .aload_n 0, 1)) DJ0_isLatin1_aae02_b0 2 rfl
theorem dJ0_isLatin1_aae02_7 : decode cJ0_isLatin1_aae02 7 = .ok (.getfield 15, 3) := of_row (r := (7, .getfield 15, 3)) DJ0_isLatin1_aae02_b0 3 rfl
theorem dJ0_isLatin1_aae02_10 : decode cJ0_isLatin1_aae02 10 = .ok (.ifCond .ne 7, 3) := of_row (r := (10, .ifCond .ne 7, 3)) DJ0_isLatin1_aae02_b0 4 rfl
theorem dJ0_isLatin1_aae02_13 : decode cJ0_isLatin1_aae02 13 = .ok (.iconst 1, 1) := of_row (r := (13, .iconst 1, 1)) DJ0_isLatin1_aae02_b0 5 rfl
theorem dJ0_isLatin1_aae02_14 : decode cJ0_isLatin1_aae02 14 = .ok (.goto 4, 3) := of_row (r := (14, .goto 4, 3)) DJ0_isLatin1_aae02_b0 6 rfl
theorem dJ0_isLatin1_aae02_17 : decode cJ0_isLatin1_aae02 17 = .ok (.iconst 0, 1) := of_row (r := (17, .iconst 0, 1)) DJ0_isLatin1_aae02_b0 7 rfl
theorem dJ0_isLatin1_aae02_18 : decode cJ0_isLatin1_aae02 18 = .ok (.ireturn, 1) := of_row (r := (18, .ireturn, 1)) DJ0_isLatin1_aae02_b0 8 rfl
set_option maxRecDepth 20000 in
theorem DJ0_checkIndex_df160_b0 : ([(0, .iload_n 0, 1), (1, .iload_n 1, 1), (2, .getstatic 1053, 3), (5, .invokestatic 1059, 3), (8, .pop, 1), (9, .return_, 1)] : List (Nat × Instr × Nat)).all (fun r => decide (decode cJ0_checkIndex_df160 r.1 = .ok r.2)) = true := by decide +kernel
theorem dJ0_checkIndex_df160_0 : decode cJ0_checkIndex_df160 0 = .ok (.iload_n 0, 1) := of_row (r := (0, .iload_n 0, 1)) DJ0_checkIndex_df160_b0 0 rfl
theorem dJ0_checkIndex_df160_1 : decode cJ0_checkIndex_df160 1 = .ok (.iload_n 1, 1) := of_row (r := (1, .iload_n 1, 1)) DJ0_checkIndex_df160_b0 1 rfl
theorem dJ0_checkIndex_df160_2 : decode cJ0_checkIndex_df160 2 = .ok (.getstatic 1053, 3) := of_row (r := (2, .getstatic 1053, 3)) DJ0_checkIndex_df160_b0 2 rfl
theorem dJ0_checkIndex_df160_5 : decode cJ0_checkIndex_df160 5 = .ok (.invokestatic 1059, 3) := of_row (r := (5, .invokestatic 1059, 3)) DJ0_checkIndex_df160_b0 3 rfl
theorem dJ0_checkIndex_df160_8 : decode cJ0_checkIndex_df160 8 = .ok (.pop, 1) := of_row (r := (8, .pop, 1)) DJ0_checkIndex_df160_b0 4 rfl
theorem dJ0_checkIndex_df160_9 : decode cJ0_checkIndex_df160 9 = .ok (.return_, 1) := of_row (r := (9, .return_, 1)) DJ0_checkIndex_df160_b0 5 rfl
set_option maxRecDepth 20000 in
theorem DJ1_charAt_3b067_b0 : ([(0, .iload_n 1, 1), (1, .aload_n 0, 1), (2, .arraylength, 1), (3, .invokestatic 9, 3), (6, .aload_n 0, 1), (7, .iload_n 1, 1), (8, .baload, 1), (9, .sipush 255, 3), (12, .iand, 1), (13, .i2c, 1), (14, .ireturn, 1)] : List (Nat × Instr × Nat)).all (fun r => decide (decode cJ1_charAt_3b067 r.1 = .ok r.2)) = true := by decide +kernel
theorem dJ1_charAt_3b067_0 : decode cJ1_charAt_3b067 0 = .ok (.iload_n 1, 1) := of_row (r := (0, .iload_n 1, 1)) DJ1_charAt_3b067_b0 0 rfl
theorem dJ1_charAt_3b067_1 : decode cJ1_charAt_3b067 1 = .ok (.aload_n 0, 1) := of_row (r := (1, .aload_n 0, 1)) DJ1_charAt_3b067_b0 1 rfl
theorem dJ1_charAt_3b067_2 : decode cJ1_charAt_3b067 2 = .ok (.arraylength, 1) := of_row (r := (2, .arraylength, 1)) DJ1_charAt_3b067_b0 2 rfl
theorem dJ1_charAt_3b067_3 : decode cJ1_charAt_3b067 3 = .ok (.invokestatic 9, 3) := of_row (r := (3, .invokestatic 9, 3)) DJ1_charAt_3b067_b0 3 rfl
theorem dJ1_charAt_3b067_6 : decode cJ1_charAt_3b067 6 = .ok (.aload_n 0, 1) := of_row (r := (6, .aload_n 0, 1)) DJ1_charAt_3b067_b0 4 rfl
theorem dJ1_charAt_3b067_7 : decode cJ1_charAt_3b067 7 = .ok (.iload_n 1, 1) := of_row (r := (7, .iload_n 1, 1)) DJ1_charAt_3b067_b0 5 rfl
theorem dJ1_charAt_3b067_8 : decode cJ1_charAt_3b067 8 = .ok (.baload, 1) := of_row (r := (8, .baload, 1)) DJ1_charAt_3b067_b0 6 rfl
theorem dJ1_charAt_3b067_9 : decode cJ1_charAt_3b067 9 = .ok (.sipush 255, 3) := of_row (r := (9, .sipush 255, 3)) DJ1_charAt_3b067_b0 7 rfl
theorem dJ1_charAt_3b067_12 : decode cJ1_charAt_3b067 12 = .ok (.iand, 1) := of_row (r := (12, .iand, 1)) DJ1_charAt_3b067_b0 8 rfl
theorem dJ1_charAt_3b067_13 : decode cJ1_charAt_3b067 13 = .ok (.i2c, 1) := of_row (r := (13, .i2c, 1)) DJ1_charAt_3b067_b0 9 rfl
theorem dJ1_charAt_3b067_14 : decode cJ1_charAt_3b067 14 = .ok (.ireturn, 1) := of_row (r := (14, .ireturn, 1)) DJ1_charAt_3b067_b0 10 rfl
set_option maxRecDepth 20000 in
theorem DJ7_fill_53178_b0 : ([(0, .iconst 0, 1), (1, .istore_n 2, 1), (2, .aload_n 0, 1), (3, .arraylength, 1), (4, .istore_n 3, 1), (5, .iload_n 2, 1), (6, .iload_n 3, 1), (7, .if_icmp .ge 13, 3), (10, .aload_n 0, 1), (11, .iload_n 2, 1), (12, .iload_n 1, 1), (13, .iastore, 1), (14, .iinc 2 1, 3), (17, .goto (-12), 3), (20, .return_, 1)] : List (Nat × Instr × Nat)).all (fun r => decide (decode cJ7_fill_53178 r.1 = .ok r.2)) = true := by decide +kernel
theorem dJ7_fill_53178_0 : decode cJ7_fill_53178 0 = .ok (.iconst 0, 1) := of_row (r := (0, .iconst 0, 1)) DJ7_fill_53178_b0 0 rfl
theorem dJ7_fill_53178_1 : decode cJ7_fill_53178 1 = .ok (.istore_n 2, 1) := of_row (r := (1, .istore_n 2, 1)) DJ7_fill_53178_b0 1 rfl
theorem dJ7_fill_53178_2 : decode cJ7_fill_53178 2 = .ok (.aload_n 0, 1) := of_row (r := (2, .aload_n 0, 1)) DJ7_fill_53178_b0 2 rfl
theorem dJ7_fill_53178_3 : decode cJ7_fill_53178 3 = .ok (.arraylength, 1) := of_row (r := (3, .arraylength, 1)) DJ7_fill_53178_b0 3 rfl
theorem dJ7_fill_53178_4 : decode cJ7_fill_53178 4 = .ok (.istore_n 3, 1) := of_row (r := (4, .istore_n 3, 1)) DJ7_fill_53178_b0 4 rfl
theorem dJ7_fill_53178_5 : decode cJ7_fill_53178 5 = .ok (.iload_n 2, 1) := of_row (r := (5, .iload_n 2, 1)) DJ7_fill_53178_b0 5 rfl
theorem dJ7_fill_53178_6 : decode cJ7_fill_53178 6 = .ok (.iload_n 3, 1) := of_row (r := (6, .iload_n 3, 1)) DJ7_fill_53178_b0 6 rfl
theorem dJ7_fill_53178_7 : decode cJ7_fill_53178 7 = .ok (.if_icmp .ge 13, 3) := of_row (r := (7, .if_icmp .ge 13, 3)) DJ7_fill_53178_b0 7 rfl
theorem dJ7_fill_53178_10 : decode cJ7_fill_53178 10 = .ok (.aload_n 0, 1) := of_row (r := (10, .aload_n 0, 1)) DJ7_fill_53178_b0 8 rfl
theorem dJ7_fill_53178_11 : decode cJ7_fill_53178 11 = .ok (.iload_n 2, 1) := of_row (r := (11, .iload_n 2, 1)) DJ7_fill_53178_b0 9 rfl
theorem dJ7_fill_53178_12 : decode cJ7_fill_53178 12 = .ok (.iload_n 1, 1) := of_row (r := (12, .iload_n 1, 1)) DJ7_fill_53178_b0 10 rfl
theorem dJ7_fill_53178_13 : decode cJ7_fill_53178 13 = .ok (.iastore, 1) := of_row (r := (13, .iastore, 1)) DJ7_fill_53178_b0 11 rfl
theorem dJ7_fill_53178_14 : decode cJ7_fill_53178 14 = .ok (.iinc 2 1, 3) := of_row (r := (14, .iinc 2 1, 3)) DJ7_fill_53178_b0 12 rfl
theorem dJ7_fill_53178_17 : decode cJ7_fill_53178 17 = .ok (.goto (-12), 3) := of_row (r := (17, .goto (-12), 3)) DJ7_fill_53178_b0 13 rfl
theorem dJ7_fill_53178_20 : decode cJ7_fill_53178 20 = .ok (.return_, 1) := of_row (r := (20, .return_, 1)) DJ7_fill_53178_b0 14 rfl
set_option maxRecDepth 20000 in
theorem DJ7_copyOf_59c91_b0 : ([(0, .iload_n 1, 1), (1, .aload_n 0, 1), (2, .arraylength, 1), (3, .if_icmp .ne 11, 3), (6, .aload_n 0, 1), (7, .invokevirtual 316, 3), (10, .checkcast 317, 3), (13, .areturn, 1), (14, .iload_n 1, 1), (15, .newarray .int, 2), (17, .astore_n 2, 1), (18, .aload_n 0, 1), (19, .iconst 0, 1), (20, .aload_n 2, 1), (21, .iconst 0, 1), (22, .aload_n 0, 1), (23, .arraylength, 1), (24, .iload_n 1, 1), (25, .invokestatic 304, 3), (28, .invokestatic 150, 3), (31, .aload_n 2, 1), (32, .areturn, 1)] : List (Nat × Instr × Nat)).all (fun r => decide (decode cJ7_copyOf_59c91 r.1 = .ok r.2)) = true := by decide +kernel
theorem dJ7_copyOf_59c91_0 : decode cJ7_copyOf_59c91 0 = .ok (.iload_n 1, 1) := of_row (r := (0, .iload_n 1, 1)) DJ7_copyOf_59c91_b0 0 rfl
theorem dJ7_copyOf_59c91_1 : decode cJ7_copyOf_59c91 1 = .ok (.aload_n 0, 1) := of_row (r := (1, .aload_n 0, 1)) DJ7_copyOf_59c91_b0 1 rfl
theorem dJ7_copyOf_59c91_2 : decode cJ7_copyOf_59c91 2 = .ok (.arraylength, 1) := of_row (r := (2, .arraylength, 1)) DJ7_copyOf_59c91_b0 2 rfl
theorem dJ7_copyOf_59c91_3 : decode cJ7_copyOf_59c91 3 = .ok (.if_icmp .ne 11, 3) := of_row (r := (3, .if_icmp .ne 11, 3)) DJ7_copyOf_59c91_b0 3 rfl
theorem dJ7_copyOf_59c91_6 : decode cJ7_copyOf_59c91 6 = .ok (.aload_n 0, 1) := of_row (r := (6, .aload_n 0, 1)) DJ7_copyOf_59c91_b0 4 rfl
theorem dJ7_copyOf_59c91_7 : decode cJ7_copyOf_59c91 7 = .ok (.invokevirtual 316, 3) := of_row (r := (7, .invokevirtual 316, 3)) DJ7_copyOf_59c91_b0 5 rfl
theorem dJ7_copyOf_59c91_10 : decode cJ7_copyOf_59c91 10 = .ok (.checkcast 317, 3) := of_row (r := (10, .checkcast 317, 3)) DJ7_copyOf_59c91_b0 6 rfl
theorem dJ7_copyOf_59c91_13 : decode cJ7_copyOf_59c91 13 = .ok (.areturn, 1) := of_row (r := (13, .areturn, 1)) DJ7_copyOf_59c91_b0 7 rfl
theorem dJ7_copyOf_59c91_14 : decode cJ7_copyOf_59c91 14 = .ok (.iload_n 1, 1) := of_row (r := (14, .iload_n 1, 1)) DJ7_copyOf_59c91_b0 8 rfl
theorem dJ7_copyOf_59c91_15 : decode cJ7_copyOf_59c91 15 = .ok (.newarray .int, 2) := of_row (r := (15, .newarray .int, 2)) DJ7_copyOf_59c91_b0 9 rfl
theorem dJ7_copyOf_59c91_17 : decode cJ7_copyOf_59c91 17 = .ok (.astore_n 2, 1) := of_row (r := (17, .astore_n 2, 1)) DJ7_copyOf_59c91_b0 10 rfl
theorem dJ7_copyOf_59c91_18 : decode cJ7_copyOf_59c91 18 = .ok (.aload_n 0, 1) := of_row (r := (18, .aload_n 0, 1)) DJ7_copyOf_59c91_b0 11 rfl
theorem dJ7_copyOf_59c91_19 : decode cJ7_copyOf_59c91 19 = .ok (.iconst 0, 1) := of_row (r := (19, .iconst 0, 1)) DJ7_copyOf_59c91_b0 12 rfl
theorem dJ7_copyOf_59c91_20 : decode cJ7_copyOf_59c91 20 = .ok (.aload_n 2, 1) := of_row (r := (20, .aload_n 2, 1)) DJ7_copyOf_59c91_b0 13 rfl
theorem dJ7_copyOf_59c91_21 : decode cJ7_copyOf_59c91 21 = .ok (.iconst 0, 1) := of_row (r := (21, .iconst 0, 1)) DJ7_copyOf_59c91_b0 14 rfl
theorem dJ7_copyOf_59c91_22 : decode cJ7_copyOf_59c91 22 = .ok (.aload_n 0, 1) := of_row (r := (22, .aload_n 0, 1)) DJ7_copyOf_59c91_b0 15 rfl
theorem dJ7_copyOf_59c91_23 : decode cJ7_copyOf_59c91 23 = .ok (.arraylength, 1) := of_row (r := (23, .arraylength, 1)) DJ7_copyOf_59c91_b0 16 rfl
theorem dJ7_copyOf_59c91_24 : decode cJ7_copyOf_59c91 24 = .ok (.iload_n 1, 1) := of_row (r := (24, .iload_n 1, 1)) DJ7_copyOf_59c91_b0 17 rfl
theorem dJ7_copyOf_59c91_25 : decode cJ7_copyOf_59c91 25 = .ok (.invokestatic 304, 3) := of_row (r := (25, .invokestatic 304, 3)) DJ7_copyOf_59c91_b0 18 rfl
theorem dJ7_copyOf_59c91_28 : decode cJ7_copyOf_59c91 28 = .ok (.invokestatic 150, 3) := of_row (r := (28, .invokestatic 150, 3)) DJ7_copyOf_59c91_b0 19 rfl
theorem dJ7_copyOf_59c91_31 : decode cJ7_copyOf_59c91 31 = .ok (.aload_n 2, 1) := of_row (r := (31, .aload_n 2, 1)) DJ7_copyOf_59c91_b0 20 rfl
theorem dJ7_copyOf_59c91_32 : decode cJ7_copyOf_59c91 32 = .ok (.areturn, 1) := of_row (r := (32, .areturn, 1)) DJ7_copyOf_59c91_b0 21 rfl
set_option maxRecDepth 20000 in
theorem DJ3_checkIndex_8e157_b0 : ([(0, .iload_n 0, 1), (1, .ifCond .lt 8, 3), (4, .iload_n 0, 1), (5, .iload_n 1, 1), (6, .if_icmp .lt 10, 3), (9, .aload_n 2, 1), (10, .iload_n 0, 1), (11, .iload_n 1, 1), (12, .invokestatic 95, 3), (15, .athrow, 1), (16, .iload_n 0, 1), (17, .ireturn, 1)] : List (Nat × Instr × Nat)).all (fun r => decide (decode cJ3_checkIndex_8e157 r.1 = .ok r.2)) = true := by decide +kernel
theorem dJ3_checkIndex_8e157_0 : decode cJ3_checkIndex_8e157 0 = .ok (.iload_n 0, 1) := of_row (r := (0, .iload_n 0, 1)) DJ3_checkIndex_8e157_b0 0 rfl
theorem dJ3_checkIndex_8e157_1 : decode cJ3_checkIndex_8e157 1 = .ok (.ifCond .lt 8, 3) := of_row (r := (1, .ifCond .lt 8, 3)) DJ3_checkIndex_8e157_b0 1 rfl
theorem dJ3_checkIndex_8e157_4 : decode cJ3_checkIndex_8e157 4 = .ok (.iload_n 0, 1) := of_row (r := (4, .iload_n 0, 1)) DJ3_checkIndex_8e157_b0 2 rfl
theorem dJ3_checkIndex_8e157_5 : decode cJ3_checkIndex_8e157 5 = .ok (.iload_n 1, 1) := of_row (r := (5, .iload_n 1, 1)) DJ3_checkIndex_8e157_b0 3 rfl
theorem dJ3_checkIndex_8e157_6 : decode cJ3_checkIndex_8e157 6 = .ok (.if_icmp .lt 10, 3) := of_row (r := (6, .if_icmp .lt 10, 3)) DJ3_checkIndex_8e157_b0 4 rfl
theorem dJ3_checkIndex_8e157_9 : decode cJ3_checkIndex_8e157 9 = .ok (.aload_n 2, 1) := of_row (r := (9, .aload_n 2, 1)) DJ3_checkIndex_8e157_b0 5 rfl
theorem dJ3_checkIndex_8e157_10 : decode cJ3_checkIndex_8e157 10 = .ok (.iload_n 0, 1) := of_row (r := (10, .iload_n 0, 1)) DJ3_checkIndex_8e157_b0 6 rfl
theorem dJ3_checkIndex_8e157_11 : decode cJ3_checkIndex_8e157 11 = .ok (.iload_n 1, 1) := of_row (r := (11, .iload_n 1, 1)) DJ3_checkIndex_8e157_b0 7 rfl
theorem dJ3_checkIndex_8e157_12 : decode cJ3_checkIndex_8e157 12 = .ok (.invokestatic 95, 3) := of_row (r := (12, .invokestatic 95, 3)) DJ3_checkIndex_8e157_b0 8 rfl
theorem dJ3_checkIndex_8e157_15 : decode cJ3_checkIndex_8e157 15 = .ok (.athrow, 1) := of_row (r := (15, .athrow, 1)) DJ3_checkIndex_8e157_b0 9 rfl
theorem dJ3_checkIndex_8e157_16 : decode cJ3_checkIndex_8e157 16 = .ok (.iload_n 0, 1) := of_row (r := (16, .iload_n 0, 1)) DJ3_checkIndex_8e157_b0 10 rfl
theorem dJ3_checkIndex_8e157_17 : decode cJ3_checkIndex_8e157 17 = .ok (.ireturn, 1) := of_row (r := (17, .ireturn, 1)) DJ3_checkIndex_8e157_b0 11 rfl
set_option maxRecDepth 20000 in
theorem ggX0_layDown_X0_notches : GoodIn wsX0_layDown wsX0_notches := goodIn_r _ [6, 7] (by decide +kernel) (by decide +kernel)
set_option maxRecDepth 20000 in
theorem gX0_layDown_X0_notches : GoodIn wsX0_layDown (va_wsS RX0 19 yX0_notches wsX0_notches) := goodIn_app (goodIn_of _ (by decide +kernel)) ggX0_layDown_X0_notches
set_option maxRecDepth 20000 in
theorem ggX0_takeUp_X0_notches : GoodIn wsX0_takeUp wsX0_notches := goodIn_r _ [5, 6] (by decide +kernel) (by decide +kernel)
set_option maxRecDepth 20000 in
theorem gX0_takeUp_X0_notches : GoodIn wsX0_takeUp (va_wsS RX0 19 yX0_notches wsX0_notches) := goodIn_app (goodIn_of _ (by decide +kernel)) ggX0_takeUp_X0_notches
set_option maxRecDepth 20000 in
theorem ggX0_takeUp_X0_bringDown : GoodIn wsX0_takeUp wsX0_bringDown := goodIn_r _ [10, 1, 11, 12] (by decide +kernel) (by decide +kernel)
set_option maxRecDepth 20000 in
theorem gX0_takeUp_X0_bringDown : GoodIn wsX0_takeUp (wsV RX0 26 RX0 yX0_bringDown wsX0_bringDown) := goodIn_app (goodIn_of _ (by decide +kernel)) ggX0_takeUp_X0_bringDown
set_option maxRecDepth 20000 in
theorem ggX1_readTape_X1_nextToken : GoodIn wsX1_readTape wsX1_nextToken := goodIn_r _ [14, 1, 15, 16, 9, 17, 18, 19, 20, 21, 22, 23, 24, 25, 13, 26, 27, 28, 29, 30, 31, 32, 33, 34, 35, 36, 37, 38, 39, 40, 41, 42, 43, 44, 45, 46, 47, 48, 49, 50, 51, 52, 53, 54, 55, 56, 57, 58, 59, 60, 61, 62, 63, 64, 65, 66, 67, 68, 69, 70, 71, 72, 73, 74, 75, 76, 77, 78, 79, 80, 81, 82, 83, 84, 85, 86, 87, 88, 89, 90, 91, 92, 93, 94, 95, 96, 97, 98, 99, 100, 101, 102, 103, 104, 105, 106, 107, 172, 173, 174, 175, 176, 177, 178, 179, 180, 181, 182, 183, 184, 185, 186, 187, 188, 189, 190] (by decide +kernel) (by decide +kernel)
set_option maxRecDepth 20000 in
theorem gX1_readTape_X1_nextToken : GoodIn wsX1_readTape (wsV RX1 57 RX1 yX1_nextToken wsX1_nextToken) := goodIn_app (goodIn_of _ (by decide +kernel)) ggX1_readTape_X1_nextToken
set_option maxRecDepth 20000 in
theorem ggX1_readTape_X1_accepts : GoodIn wsX1_readTape wsX1_accepts := goodIn_r _ [111, 2, 112, 113, 114, 13, 115, 7, 116, 8, 9, 117, 118, 119, 120, 121, 122, 123, 124, 125, 126, 17, 127, 128, 129, 130, 131, 132, 133, 134, 3, 5, 4, 135, 136, 137, 138, 1, 15, 139, 140, 141, 142, 143, 144, 145, 146, 147, 6, 148, 149, 150, 151, 152, 102, 103, 104, 105, 106, 107, 153, 154, 155, 156, 157, 158, 159, 160, 161, 162, 163, 164, 165, 166, 167, 168, 169, 170, 171, 172, 173, 174, 175, 176, 177, 178, 179, 180, 181, 182, 183, 184, 185, 186, 187, 188] (by decide +kernel) (by decide +kernel)
set_option maxRecDepth 20000 in
theorem gX1_readTape_X1_accepts : GoodIn wsX1_readTape (wsV RX1 63 RX1 yX1_accepts wsX1_accepts) := goodIn_app (goodIn_of _ (by decide +kernel)) ggX1_readTape_X1_accepts
set_option maxRecDepth 20000 in
theorem ggX1_lastText_J7_copyOf_59c91 : GoodIn wsX1_lastText wsJ7_copyOf_59c91 := goodIn_r _ [13, 14, 15, 16, 17, 18, 19, 20, 21, 22, 23, 24, 25, 26, 27, 28] (by decide +kernel) (by decide +kernel)
set_option maxRecDepth 20000 in
theorem gX1_lastText_J7_copyOf_59c91 : GoodIn wsX1_lastText (va_wsS RX1 69 yJ7_copyOf_59c91 wsJ7_copyOf_59c91) := goodIn_app (goodIn_of _ (by decide +kernel)) ggX1_lastText_J7_copyOf_59c91
set_option maxRecDepth 20000 in
theorem ggX1_lastText_X4_init : GoodIn wsX1_lastText wsX4_init := goodIn_r _ [30, 31, 32, 33, 34, 35, 36, 37, 38, 39, 40, 41] (by decide +kernel) (by decide +kernel)
set_option maxRecDepth 20000 in
theorem gX1_lastText_X4_init_n75 : GoodIn wsX1_lastText (wsX4_init) := ggX1_lastText_X4_init
set_option maxRecDepth 20000 in
theorem ggX1_nextToken_X3_byteAt : GoodIn wsX1_nextToken wsX3_byteAt := goodIn_r _ [9, 10, 11, 114, 115] (by decide +kernel) (by decide +kernel)
set_option maxRecDepth 20000 in
theorem gX1_nextToken_X3_byteAt_n86 : GoodIn wsX1_nextToken (wsX3_byteAt) := ggX1_nextToken_X3_byteAt
set_option maxRecDepth 20000 in
theorem ggX1_nextToken_X1_isBlank : GoodIn wsX1_nextToken wsX1_isBlank := goodIn_r _ [15] (by decide +kernel) (by decide +kernel)
set_option maxRecDepth 20000 in
theorem gX1_nextToken_X1_isBlank : GoodIn wsX1_nextToken (va_wsS RX1 90 yX1_isBlank wsX1_isBlank) := goodIn_app (goodIn_of _ (by decide +kernel)) ggX1_nextToken_X1_isBlank
set_option maxRecDepth 20000 in
theorem ggX1_nextToken_X1_isLetter : GoodIn wsX1_nextToken wsX1_isLetter := goodIn_r _ [18] (by decide +kernel) (by decide +kernel)
set_option maxRecDepth 20000 in
theorem gX1_nextToken_X1_isLetter : GoodIn wsX1_nextToken (va_wsS RX1 94 yX1_isLetter wsX1_isLetter) := goodIn_app (goodIn_of _ (by decide +kernel)) ggX1_nextToken_X1_isLetter
set_option maxRecDepth 20000 in
theorem ggX1_nextToken_X1_wordAt : GoodIn wsX1_nextToken wsX1_wordAt := goodIn_r _ [22, 23, 24, 25, 26, 27, 28, 29, 30, 31, 32, 33, 34, 35, 36, 37, 14, 38, 3, 6, 7, 8, 9, 10, 11, 39, 40, 41, 42, 43, 44, 45, 46, 47, 48, 49, 50, 51, 52, 53, 54, 55, 56, 57, 58, 59, 60, 61, 62, 63, 64, 65, 66, 67, 68, 69, 70, 71, 72, 73, 74, 75, 97, 98, 99, 100, 101, 102, 103, 104, 105, 106, 107, 108, 109, 110, 111, 112, 113, 114, 115] (by decide +kernel) (by decide +kernel)
set_option maxRecDepth 20000 in
theorem gX1_nextToken_X1_wordAt : GoodIn wsX1_nextToken (wsV RX1 97 RX1 yX1_wordAt wsX1_wordAt) := goodIn_app (goodIn_of _ (by decide +kernel)) ggX1_nextToken_X1_wordAt
set_option maxRecDepth 20000 in
theorem ggX1_nextToken_X1_isDigit : GoodIn wsX1_nextToken wsX1_isDigit := goodIn_r _ [78] (by decide +kernel) (by decide +kernel)
set_option maxRecDepth 20000 in
theorem gX1_nextToken_X1_isDigit : GoodIn wsX1_nextToken (va_wsS RX1 101 yX1_isDigit wsX1_isDigit) := goodIn_app (goodIn_of _ (by decide +kernel)) ggX1_nextToken_X1_isDigit
set_option maxRecDepth 20000 in
theorem ggX1_nextToken_X1_numberAt : GoodIn wsX1_nextToken wsX1_numberAt := goodIn_r _ [82, 3, 83, 84, 85, 86, 87, 6, 7, 8, 9, 10, 11, 97, 98, 99, 100, 101, 102, 103, 104, 105, 106, 107, 108, 109, 110, 111, 112, 113, 114, 115] (by decide +kernel) (by decide +kernel)
set_option maxRecDepth 20000 in
theorem gX1_nextToken_X1_numberAt : GoodIn wsX1_nextToken (wsV RX1 104 RX1 yX1_numberAt wsX1_numberAt) := goodIn_app (goodIn_of _ (by decide +kernel)) ggX1_nextToken_X1_numberAt
set_option maxRecDepth 20000 in
theorem ggX1_nextToken_X1_isSign : GoodIn wsX1_nextToken wsX1_isSign := goodIn_r _ [90, 91, 92, 14, 93, 94, 95, 96] (by decide +kernel) (by decide +kernel)
set_option maxRecDepth 20000 in
theorem gX1_nextToken_X1_isSign : GoodIn wsX1_nextToken (va_wsS RX1 110 yX1_isSign wsX1_isSign) := goodIn_app (goodIn_of _ (by decide +kernel)) ggX1_nextToken_X1_isSign
set_option maxRecDepth 20000 in
theorem ggX1_isSign_X1_isRelation : GoodIn wsX1_isSign wsX1_isRelation := goodIn_r _ [4] (by decide +kernel) (by decide +kernel)
set_option maxRecDepth 20000 in
theorem gX1_isSign_X1_isRelation : GoodIn wsX1_isSign (va_wsS RX1 113 yX1_isRelation wsX1_isRelation) := goodIn_app (goodIn_of _ (by decide +kernel)) ggX1_isSign_X1_isRelation
set_option maxRecDepth 20000 in
theorem ggX1_isSign_X1_isReckoning : GoodIn wsX1_isSign wsX1_isReckoning := goodIn_r _ [7] (by decide +kernel) (by decide +kernel)
set_option maxRecDepth 20000 in
theorem gX1_isSign_X1_isReckoning : GoodIn wsX1_isSign (va_wsS RX1 116 yX1_isReckoning wsX1_isReckoning) := goodIn_app (goodIn_of _ (by decide +kernel)) ggX1_isSign_X1_isReckoning
set_option maxRecDepth 20000 in
theorem ggX1_wordAt_J0_length_8abf5 : GoodIn wsX1_wordAt wsJ0_length_8abf5 := goodIn_r _ [5, 6, 7, 8, 9, 4, 10, 11, 12] (by decide +kernel) (by decide +kernel)
set_option maxRecDepth 20000 in
theorem gX1_wordAt_J0_length_8abf5 : GoodIn wsX1_wordAt (wsV RX1 121 RJ0 yJ0_length_8abf5 wsJ0_length_8abf5) := goodIn_app (goodIn_of _ (by decide +kernel)) ggX1_wordAt_J0_length_8abf5
set_option maxRecDepth 20000 in
theorem ggX1_wordAt_X1_isWord : GoodIn wsX1_wordAt wsX1_isWord := goodIn_r _ [17, 18, 1, 2, 3, 4, 5, 6, 7, 8, 9, 10, 11, 12, 19, 20, 21, 22, 23, 24, 25, 26, 27, 28, 29, 30, 31, 32, 33, 34, 35, 36, 37, 38, 39, 40, 41, 42, 43, 44, 45, 46, 47, 48, 49, 50, 51, 52, 53, 54, 55, 56, 57, 58, 59, 60, 61, 62, 63, 64, 65, 66, 67, 68, 69, 70, 71, 72, 73, 74, 75, 76, 77, 78, 79, 80] (by decide +kernel) (by decide +kernel)
set_option maxRecDepth 20000 in
theorem gX1_wordAt_X1_isWord : GoodIn wsX1_wordAt (wsV RX1 126 RX1 yX1_isWord wsX1_isWord) := goodIn_app (goodIn_of _ (by decide +kernel)) ggX1_wordAt_X1_isWord
set_option maxRecDepth 20000 in
theorem ggX1_isWord_J0_length_8abf5 : GoodIn wsX1_isWord wsJ0_length_8abf5 := goodIn_r _ [6, 7, 8, 9, 10, 5, 11, 12, 13] (by decide +kernel) (by decide +kernel)
set_option maxRecDepth 20000 in
theorem gX1_isWord_J0_length_8abf5 : GoodIn wsX1_isWord (wsV RX1 121 RJ0 yJ0_length_8abf5 wsJ0_length_8abf5) := goodIn_app (goodIn_of _ (by decide +kernel)) ggX1_isWord_J0_length_8abf5
set_option maxRecDepth 20000 in
theorem ggX1_isWord_X3_byteAt : GoodIn wsX1_isWord wsX3_byteAt := goodIn_r _ [17, 18, 19, 74, 75] (by decide +kernel) (by decide +kernel)
set_option maxRecDepth 20000 in
theorem gX1_isWord_X3_byteAt_n86 : GoodIn wsX1_isWord (wsX3_byteAt) := ggX1_isWord_X3_byteAt
set_option maxRecDepth 20000 in
theorem ggX1_isWord_J0_charAt_5068e : GoodIn wsX1_isWord wsJ0_charAt_5068e := goodIn_r _ [23, 7, 24, 25, 26, 5, 27, 12, 13, 28, 29, 30, 31, 32, 33, 34, 35, 36, 37, 38, 39, 40, 41, 42, 43, 44, 45, 46, 47, 48, 49, 50, 51, 52, 53, 54, 55, 56] (by decide +kernel) (by decide +kernel)
set_option maxRecDepth 20000 in
theorem gX1_isWord_J0_charAt_5068e : GoodIn wsX1_isWord (wsV RX1 130 RJ0 yJ0_charAt_5068e wsJ0_charAt_5068e) := goodIn_app (goodIn_of _ (by decide +kernel)) ggX1_isWord_J0_charAt_5068e
set_option maxRecDepth 20000 in
theorem ggX1_numberAt_X3_byteAt : GoodIn wsX1_numberAt wsX3_byteAt := goodIn_r _ [10, 11, 12, 30, 31] (by decide +kernel) (by decide +kernel)
set_option maxRecDepth 20000 in
theorem gX1_numberAt_X3_byteAt_n86 : GoodIn wsX1_numberAt (wsX3_byteAt) := ggX1_numberAt_X3_byteAt
set_option maxRecDepth 20000 in
theorem ggX1_accepts_X1_acceptsStatement : GoodIn wsX1_accepts wsX1_acceptsStatement := goodIn_r _ [6, 7, 8, 9, 10, 1, 11, 12, 13, 5, 14, 15, 16, 79, 80, 81, 82, 83, 84, 85, 86, 87, 88, 89, 90, 91, 92, 93, 94, 95] (by decide +kernel) (by decide +kernel)
set_option maxRecDepth 20000 in
theorem gX1_accepts_X1_acceptsStatement : GoodIn wsX1_accepts (wsV RX1 140 RX1 yX1_acceptsStatement wsX1_acceptsStatement) := goodIn_app (goodIn_of _ (by decide +kernel)) ggX1_accepts_X1_acceptsStatement
set_option maxRecDepth 20000 in
theorem ggX1_accepts_X1_acceptsAct : GoodIn wsX1_accepts wsX1_acceptsAct := goodIn_r _ [14, 10, 7, 15, 16, 1, 79, 80, 81, 82, 83, 84, 85, 86, 87, 88, 89, 90, 91, 92, 93, 94, 95] (by decide +kernel) (by decide +kernel)
set_option maxRecDepth 20000 in
theorem gX1_accepts_X1_acceptsAct : GoodIn wsX1_accepts (wsV RX1 143 RX1 yX1_acceptsAct wsX1_acceptsAct) := goodIn_app (goodIn_of _ (by decide +kernel)) ggX1_accepts_X1_acceptsAct
set_option maxRecDepth 20000 in
theorem ggX1_accepts_X1_acceptsShare : GoodIn wsX1_accepts wsX1_acceptsShare := goodIn_r _ [20, 10, 21, 7, 16, 1, 79, 80, 81, 82, 83, 84, 85, 86, 87, 88, 89, 90, 91, 92, 93, 94, 95] (by decide +kernel) (by decide +kernel)
set_option maxRecDepth 20000 in
theorem gX1_accepts_X1_acceptsShare : GoodIn wsX1_accepts (wsV RX1 146 RX1 yX1_acceptsShare wsX1_acceptsShare) := goodIn_app (goodIn_of _ (by decide +kernel)) ggX1_accepts_X1_acceptsShare
set_option maxRecDepth 20000 in
theorem ggX1_accepts_X1_acceptsClose : GoodIn wsX1_accepts wsX1_acceptsClose := goodIn_r _ [25, 10, 7, 1, 79, 80, 81, 82, 83, 84, 85, 86, 87, 88, 89, 90, 91, 92, 93, 94, 95] (by decide +kernel) (by decide +kernel)
set_option maxRecDepth 20000 in
theorem gX1_accepts_X1_acceptsClose : GoodIn wsX1_accepts (wsV RX1 149 RX1 yX1_acceptsClose wsX1_acceptsClose) := goodIn_app (goodIn_of _ (by decide +kernel)) ggX1_accepts_X1_acceptsClose
set_option maxRecDepth 20000 in
theorem ggX1_accepts_X1_acceptsOne : GoodIn wsX1_accepts wsX1_acceptsOne := goodIn_r _ [29, 10, 30, 31, 32, 33, 34, 35, 5, 36, 37, 38, 21, 1, 39, 40, 41, 42, 9, 43, 44, 45, 46, 47, 48, 49, 79, 80, 81, 82, 83, 84, 85, 86, 87, 88, 89, 90, 91, 92, 93, 94, 95] (by decide +kernel) (by decide +kernel)
set_option maxRecDepth 20000 in
theorem gX1_accepts_X1_acceptsOne : GoodIn wsX1_accepts (wsV RX1 152 RX1 yX1_acceptsOne wsX1_acceptsOne) := goodIn_app (goodIn_of _ (by decide +kernel)) ggX1_accepts_X1_acceptsOne
set_option maxRecDepth 20000 in
theorem ggX1_accepts_X1_acceptsPart : GoodIn wsX1_accepts wsX1_acceptsPart := goodIn_r _ [36, 10, 37, 38, 21, 1, 39, 40, 41, 5, 42, 9, 43, 79, 80, 81, 82, 83, 84, 85, 86, 87, 88, 89, 90, 91, 92, 93, 94, 95] (by decide +kernel) (by decide +kernel)
set_option maxRecDepth 20000 in
theorem gX1_accepts_X1_acceptsPart : GoodIn wsX1_accepts (wsV RX1 155 RX1 yX1_acceptsPart wsX1_acceptsPart) := goodIn_app (goodIn_of _ (by decide +kernel)) ggX1_accepts_X1_acceptsPart
set_option maxRecDepth 20000 in
theorem ggX1_accepts_X1_acceptsBehindPart : GoodIn wsX1_accepts wsX1_acceptsBehindPart := goodIn_r _ [53, 10, 30, 1, 54, 55, 5, 56, 57, 58, 59, 60, 61, 62, 63, 32, 64, 65, 66, 67, 68, 69, 70, 71, 72, 73, 74, 48, 49, 31, 39, 40, 41, 42, 9, 43, 44, 45, 46, 47, 75, 76, 77, 78, 79, 80, 81, 82, 83, 84, 85, 86, 87, 88, 89, 90, 91, 92, 93, 94, 95] (by decide +kernel) (by decide +kernel)
set_option maxRecDepth 20000 in
theorem gX1_accepts_X1_acceptsBehindPart : GoodIn wsX1_accepts (wsV RX1 158 RX1 yX1_acceptsBehindPart wsX1_acceptsBehindPart) := goodIn_app (goodIn_of _ (by decide +kernel)) ggX1_accepts_X1_acceptsBehindPart
set_option maxRecDepth 20000 in
theorem ggX1_accepts_X1_acceptsBehindOne : GoodIn wsX1_accepts wsX1_acceptsBehindOne := goodIn_r _ [63, 10, 1, 32, 64, 65, 66, 5, 67, 68, 69, 70, 71, 72, 73, 74, 48, 49, 31, 39, 40, 41, 42, 9, 43, 44, 45, 46, 47, 75, 76, 77, 78, 79, 80, 81, 82, 83, 84, 85, 86, 87, 88, 89, 90, 91, 92, 93, 94, 95] (by decide +kernel) (by decide +kernel)
set_option maxRecDepth 20000 in
theorem gX1_accepts_X1_acceptsBehindOne : GoodIn wsX1_accepts (wsV RX1 161 RX1 yX1_acceptsBehindOne wsX1_acceptsBehindOne) := goodIn_app (goodIn_of _ (by decide +kernel)) ggX1_accepts_X1_acceptsBehindOne
set_option maxRecDepth 20000 in
theorem ggX1_acceptsStatement_X1_acceptsAct : GoodIn wsX1_acceptsStatement wsX1_acceptsAct := goodIn_r _ [10, 4, 1, 11, 12, 5, 13, 14, 15, 16, 17, 18, 19, 20, 21, 22, 23, 24, 25, 26, 27, 28, 29] (by decide +kernel) (by decide +kernel)
set_option maxRecDepth 20000 in
theorem gX1_acceptsStatement_X1_acceptsAct : GoodIn wsX1_acceptsStatement (wsV RX1 143 RX1 yX1_acceptsAct wsX1_acceptsAct) := goodIn_app (goodIn_of _ (by decide +kernel)) ggX1_acceptsStatement_X1_acceptsAct
set_option maxRecDepth 20000 in
theorem ggX1_acceptsOne_X1_acceptsPart : GoodIn wsX1_acceptsOne wsX1_acceptsPart := goodIn_r _ [9, 1, 10, 11, 12, 13, 14, 15, 16, 8, 17, 18, 19, 26, 27, 28, 29, 30, 31, 32, 33, 34, 35, 36, 37, 38, 39, 40, 41, 42] (by decide +kernel) (by decide +kernel)
set_option maxRecDepth 20000 in
theorem gX1_acceptsOne_X1_acceptsPart : GoodIn wsX1_acceptsOne (wsV RX1 155 RX1 yX1_acceptsPart wsX1_acceptsPart) := goodIn_app (goodIn_of _ (by decide +kernel)) ggX1_acceptsOne_X1_acceptsPart
set_option maxRecDepth 20000 in
theorem ggX1_acceptsOne_X1_push : GoodIn wsX1_acceptsOne wsX1_push := goodIn_r _ [23, 24, 25, 26, 27, 28, 29, 30, 31, 32, 33, 34, 35, 36, 37, 38, 39, 40, 41, 42] (by decide +kernel) (by decide +kernel)
set_option maxRecDepth 20000 in
theorem gX1_acceptsOne_X1_push : GoodIn wsX1_acceptsOne (wsV RX1 164 RX1 yX1_push wsX1_push) := goodIn_app (goodIn_of _ (by decide +kernel)) ggX1_acceptsOne_X1_push
set_option maxRecDepth 20000 in
theorem ggX1_acceptsPart_X1_emit : GoodIn wsX1_acceptsPart wsX1_emit := goodIn_r _ [10, 11, 12, 13, 14, 15, 16, 17, 18, 19, 20, 21, 22, 23, 24, 25, 26, 27, 28, 29] (by decide +kernel) (by decide +kernel)
set_option maxRecDepth 20000 in
theorem gX1_acceptsPart_X1_emit : GoodIn wsX1_acceptsPart (wsV RX1 168 RX1 yX1_emit wsX1_emit) := goodIn_app (goodIn_of _ (by decide +kernel)) ggX1_acceptsPart_X1_emit
set_option maxRecDepth 20000 in
theorem ggX1_acceptsBehindPart_X1_isRelation : GoodIn wsX1_acceptsBehindPart wsX1_isRelation := goodIn_r _ [7] (by decide +kernel) (by decide +kernel)
set_option maxRecDepth 20000 in
theorem gX1_acceptsBehindPart_X1_isRelation : GoodIn wsX1_acceptsBehindPart (va_wsS RX1 113 yX1_isRelation wsX1_isRelation) := goodIn_app (goodIn_of _ (by decide +kernel)) ggX1_acceptsBehindPart_X1_isRelation
set_option maxRecDepth 20000 in
theorem ggX1_acceptsBehindPart_X1_isReckoning : GoodIn wsX1_acceptsBehindPart wsX1_isReckoning := goodIn_r _ [10] (by decide +kernel) (by decide +kernel)
set_option maxRecDepth 20000 in
theorem gX1_acceptsBehindPart_X1_isReckoning : GoodIn wsX1_acceptsBehindPart (va_wsS RX1 116 yX1_isReckoning wsX1_isReckoning) := goodIn_app (goodIn_of _ (by decide +kernel)) ggX1_acceptsBehindPart_X1_isReckoning
set_option maxRecDepth 20000 in
theorem ggX1_acceptsBehindPart_X1_acceptsBehindOne : GoodIn wsX1_acceptsBehindPart wsX1_acceptsBehindOne := goodIn_r _ [14, 1, 3, 15, 16, 17, 18, 6, 19, 20, 21, 22, 23, 24, 25, 26, 27, 28, 29, 30, 31, 32, 33, 34, 35, 36, 37, 38, 39, 40, 41, 42, 43, 44, 45, 46, 47, 48, 49, 50, 51, 52, 53, 54, 55, 56, 57, 58, 59, 60] (by decide +kernel) (by decide +kernel)
set_option maxRecDepth 20000 in
theorem gX1_acceptsBehindPart_X1_acceptsBehindOne : GoodIn wsX1_acceptsBehindPart (wsV RX1 161 RX1 yX1_acceptsBehindOne wsX1_acceptsBehindOne) := goodIn_app (goodIn_of _ (by decide +kernel)) ggX1_acceptsBehindPart_X1_acceptsBehindOne
set_option maxRecDepth 20000 in
theorem ggX1_acceptsBehindPart_X1_join : GoodIn wsX1_acceptsBehindPart wsX1_join := goodIn_r _ [19, 1, 20, 21, 6, 22, 23, 24, 25, 26, 27, 28, 29, 30, 31, 32, 33, 34, 35, 36, 37, 38, 39, 44, 45, 46, 47, 48, 49, 50, 51, 52, 53, 54, 55, 56, 57, 58, 59, 60] (by decide +kernel) (by decide +kernel)
set_option maxRecDepth 20000 in
theorem gX1_acceptsBehindPart_X1_join : GoodIn wsX1_acceptsBehindPart (wsV RX1 171 RX1 yX1_join wsX1_join) := goodIn_app (goodIn_of _ (by decide +kernel)) ggX1_acceptsBehindPart_X1_join
set_option maxRecDepth 20000 in
theorem ggX1_acceptsBehindOne_X1_join : GoodIn wsX1_acceptsBehindOne wsX1_join := goodIn_r _ [8, 1, 9, 10, 7, 11, 12, 13, 14, 15, 16, 17, 18, 19, 20, 21, 22, 23, 24, 25, 26, 27, 28, 33, 34, 35, 36, 37, 38, 39, 40, 41, 42, 43, 44, 45, 46, 47, 48, 49] (by decide +kernel) (by decide +kernel)
set_option maxRecDepth 20000 in
theorem gX1_acceptsBehindOne_X1_join : GoodIn wsX1_acceptsBehindOne (wsV RX1 171 RX1 yX1_join wsX1_join) := goodIn_app (goodIn_of _ (by decide +kernel)) ggX1_acceptsBehindOne_X1_join
set_option maxRecDepth 20000 in
theorem ggX1_acceptsBehindOne_X1_strength : GoodIn wsX1_acceptsBehindOne wsX1_strength := goodIn_r _ [11] (by decide +kernel) (by decide +kernel)
set_option maxRecDepth 20000 in
theorem gX1_acceptsBehindOne_X1_strength : GoodIn wsX1_acceptsBehindOne (va_wsS RX1 174 yX1_strength wsX1_strength) := goodIn_app (goodIn_of _ (by decide +kernel)) ggX1_acceptsBehindOne_X1_strength
set_option maxRecDepth 20000 in
theorem ggX1_acceptsBehindOne_X1_emitDownTo : GoodIn wsX1_acceptsBehindOne wsX1_emitDownTo := goodIn_r _ [15, 16, 17, 18, 9, 10, 7, 11, 19, 20, 21, 22, 23, 24, 33, 34, 35, 36, 37, 38, 39, 40, 41, 42, 43, 44, 45, 46, 47, 48, 49] (by decide +kernel) (by decide +kernel)
set_option maxRecDepth 20000 in
theorem gX1_acceptsBehindOne_X1_emitDownTo : GoodIn wsX1_acceptsBehindOne (wsV RX1 177 RX1 yX1_emitDownTo wsX1_emitDownTo) := goodIn_app (goodIn_of _ (by decide +kernel)) ggX1_acceptsBehindOne_X1_emitDownTo
set_option maxRecDepth 20000 in
theorem ggX1_acceptsBehindOne_X1_dropOpen : GoodIn wsX1_acceptsBehindOne wsX1_dropOpen := goodIn_r _ [32, 16, 3, 18, 33, 34, 35, 36, 37, 38, 39, 40, 41, 42, 43, 44, 45, 46, 47, 48, 49] (by decide +kernel) (by decide +kernel)
set_option maxRecDepth 20000 in
theorem gX1_acceptsBehindOne_X1_dropOpen : GoodIn wsX1_acceptsBehindOne (wsV RX1 180 RX1 yX1_dropOpen wsX1_dropOpen) := goodIn_app (goodIn_of _ (by decide +kernel)) ggX1_acceptsBehindOne_X1_dropOpen
set_option maxRecDepth 20000 in
theorem ggX1_join_X1_strength : GoodIn wsX1_join wsX1_strength := goodIn_r _ [5] (by decide +kernel) (by decide +kernel)
set_option maxRecDepth 20000 in
theorem gX1_join_X1_strength : GoodIn wsX1_join (va_wsS RX1 174 yX1_strength wsX1_strength) := goodIn_app (goodIn_of _ (by decide +kernel)) ggX1_join_X1_strength
set_option maxRecDepth 20000 in
theorem ggX1_join_X1_emitDownTo : GoodIn wsX1_join wsX1_emitDownTo := goodIn_r _ [9, 10, 11, 12, 2, 3, 4, 5, 13, 14, 15, 16, 17, 18, 23, 24, 25, 26, 27, 28, 29, 30, 31, 32, 33, 34, 35, 36, 37, 38, 39] (by decide +kernel) (by decide +kernel)
set_option maxRecDepth 20000 in
theorem gX1_join_X1_emitDownTo : GoodIn wsX1_join (wsV RX1 177 RX1 yX1_emitDownTo wsX1_emitDownTo) := goodIn_app (goodIn_of _ (by decide +kernel)) ggX1_join_X1_emitDownTo
set_option maxRecDepth 20000 in
theorem ggX1_join_X1_push : GoodIn wsX1_join wsX1_push := goodIn_r _ [22, 10, 11, 23, 24, 25, 26, 27, 28, 29, 30, 31, 32, 33, 34, 35, 36, 37, 38, 39] (by decide +kernel) (by decide +kernel)
set_option maxRecDepth 20000 in
theorem gX1_join_X1_push : GoodIn wsX1_join (wsV RX1 164 RX1 yX1_push wsX1_push) := goodIn_app (goodIn_of _ (by decide +kernel)) ggX1_join_X1_push
set_option maxRecDepth 20000 in
theorem ggX1_emitDownTo_X1_strength : GoodIn wsX1_emitDownTo wsX1_strength := goodIn_r _ [7] (by decide +kernel) (by decide +kernel)
set_option maxRecDepth 20000 in
theorem gX1_emitDownTo_X1_strength : GoodIn wsX1_emitDownTo (va_wsS RX1 174 yX1_strength wsX1_strength) := goodIn_app (goodIn_of _ (by decide +kernel)) ggX1_emitDownTo_X1_strength
set_option maxRecDepth 20000 in
theorem ggX1_emitDownTo_X1_emit : GoodIn wsX1_emitDownTo wsX1_emit := goodIn_r _ [11, 12, 13, 14, 15, 16, 17, 18, 19, 20, 21, 22, 23, 24, 25, 26, 27, 28, 29, 30] (by decide +kernel) (by decide +kernel)
set_option maxRecDepth 20000 in
theorem gX1_emitDownTo_X1_emit : GoodIn wsX1_emitDownTo (wsV RX1 168 RX1 yX1_emit wsX1_emit) := goodIn_app (goodIn_of _ (by decide +kernel)) ggX1_emitDownTo_X1_emit
set_option maxRecDepth 20000 in
theorem ggX2_add_X2_hasRoom : GoodIn wsX2_add wsX2_hasRoom := goodIn_r _ [8, 1, 9, 29, 30, 31, 32] (by decide +kernel) (by decide +kernel)
set_option maxRecDepth 20000 in
theorem gX2_add_X2_hasRoom : GoodIn wsX2_add (wsV RX2 31 RX2 yX2_hasRoom wsX2_hasRoom) := goodIn_app (goodIn_of _ (by decide +kernel)) ggX2_add_X2_hasRoom
set_option maxRecDepth 20000 in
theorem ggX2_add_J7_copyOf_59c91 : GoodIn wsX2_add wsJ7_copyOf_59c91 := goodIn_r _ [13, 14, 15, 16, 17, 18, 19, 20, 21, 22, 23, 24, 25, 26, 27, 28] (by decide +kernel) (by decide +kernel)
set_option maxRecDepth 20000 in
theorem gX2_add_J7_copyOf_59c91 : GoodIn wsX2_add (va_wsS RX2 35 yJ7_copyOf_59c91 wsJ7_copyOf_59c91) := goodIn_app (goodIn_of _ (by decide +kernel)) ggX2_add_J7_copyOf_59c91
set_option maxRecDepth 20000 in
theorem ggX2_get_X2_has : GoodIn wsX2_get wsX2_has := goodIn_r _ [7, 8, 2, 9, 10, 11, 12] (by decide +kernel) (by decide +kernel)
set_option maxRecDepth 20000 in
theorem gX2_get_X2_has : GoodIn wsX2_get (wsV RX2 41 RX2 yX2_has wsX2_has) := goodIn_app (goodIn_of _ (by decide +kernel)) ggX2_get_X2_has
set_option maxRecDepth 20000 in
theorem ggX2_set_X2_has : GoodIn wsX2_set wsX2_has := goodIn_r _ [7, 8, 2, 9, 10, 11, 12] (by decide +kernel) (by decide +kernel)
set_option maxRecDepth 20000 in
theorem gX2_set_X2_has : GoodIn wsX2_set (wsV RX2 41 RX2 yX2_has wsX2_has) := goodIn_app (goodIn_of _ (by decide +kernel)) ggX2_set_X2_has
set_option maxRecDepth 20000 in
theorem ggX2_total_X2_get : GoodIn wsX2_total wsX2_get := goodIn_r _ [6, 7, 8, 9, 10, 11, 5, 12, 1, 13, 14, 15, 16] (by decide +kernel) (by decide +kernel)
set_option maxRecDepth 20000 in
theorem gX2_total_X2_get : GoodIn wsX2_total (wsV RX2 45 RX2 yX2_get wsX2_get) := goodIn_app (goodIn_of _ (by decide +kernel)) ggX2_total_X2_get
set_option maxRecDepth 20000 in
theorem ggX3_addFour_X3_hasRoom : GoodIn wsX3_addFour wsX3_hasRoom := goodIn_r _ [7, 2, 8, 9] (by decide +kernel) (by decide +kernel)
set_option maxRecDepth 20000 in
theorem gX3_addFour_X3_hasRoom : GoodIn wsX3_addFour (wsV RX3 19 RX3 yX3_hasRoom wsX3_hasRoom) := goodIn_app (goodIn_of _ (by decide +kernel)) ggX3_addFour_X3_hasRoom
set_option maxRecDepth 20000 in
theorem ggX5_firstHeld_X5_holds : GoodIn wsX5_firstHeld wsX5_holds := goodIn_r _ [5, 6, 7, 8, 9, 10, 11, 12, 13, 14, 15, 16, 17, 18, 4, 19, 20, 21, 22, 23, 24, 25, 26, 27, 28, 29, 30, 31, 32, 37, 38, 39, 33, 34, 35, 36] (by decide +kernel) (by decide +kernel)
set_option maxRecDepth 20000 in
theorem gX5_firstHeld_X5_holds : GoodIn wsX5_firstHeld (wsV RX5 24 RX5 yX5_holds wsX5_holds) := goodIn_app (goodIn_of _ (by decide +kernel)) ggX5_firstHeld_X5_holds
set_option maxRecDepth 20000 in
theorem ggX5_holds_X4_startOf : GoodIn wsX5_holds wsX4_startOf := goodIn_r _ [5, 6, 7, 32, 33, 34, 35] (by decide +kernel) (by decide +kernel)
set_option maxRecDepth 20000 in
theorem gX5_holds_X4_startOf_n28 : GoodIn wsX5_holds (wsX4_startOf) := ggX5_holds_X4_startOf
set_option maxRecDepth 20000 in
theorem ggX5_holds_X4_codeAt : GoodIn wsX5_holds wsX4_codeAt := goodIn_r _ [10, 7, 32, 33, 34, 35] (by decide +kernel) (by decide +kernel)
set_option maxRecDepth 20000 in
theorem gX5_holds_X4_codeAt_n36 : GoodIn wsX5_holds (wsX4_codeAt) := ggX5_holds_X4_codeAt
set_option maxRecDepth 20000 in
theorem ggX5_holds_X5_doStep : GoodIn wsX5_holds wsX5_doStep := goodIn_r _ [15, 16, 17, 18, 19, 14, 20, 1, 21, 22, 23, 24, 25, 26, 27, 28, 29, 30, 31] (by decide +kernel) (by decide +kernel)
set_option maxRecDepth 20000 in
theorem gX5_holds_X5_doStep : GoodIn wsX5_holds (wsV RX5 39 RX5 yX5_doStep wsX5_doStep) := goodIn_app (goodIn_of _ (by decide +kernel)) ggX5_holds_X5_doStep
set_option maxRecDepth 20000 in
theorem ggX5_holds_X5_pop : GoodIn wsX5_holds wsX5_pop := goodIn_r _ [25, 1, 21, 29, 30, 31] (by decide +kernel) (by decide +kernel)
set_option maxRecDepth 20000 in
theorem gX5_holds_X5_pop : GoodIn wsX5_holds (wsV RX5 43 RX5 yX5_pop wsX5_pop) := goodIn_app (goodIn_of _ (by decide +kernel)) ggX5_holds_X5_pop
set_option maxRecDepth 20000 in
theorem ggX5_doStep_X5_push : GoodIn wsX5_doStep wsX5_push := goodIn_r _ [6, 7, 8, 16, 17, 18] (by decide +kernel) (by decide +kernel)
set_option maxRecDepth 20000 in
theorem gX5_doStep_X5_push : GoodIn wsX5_doStep (wsV RX5 47 RX5 yX5_push wsX5_push) := goodIn_app (goodIn_of _ (by decide +kernel)) ggX5_doStep_X5_push
set_option maxRecDepth 20000 in
theorem ggX5_doStep_X5_pop : GoodIn wsX5_doStep wsX5_pop := goodIn_r _ [12, 7, 8, 16, 17, 18] (by decide +kernel) (by decide +kernel)
set_option maxRecDepth 20000 in
theorem gX5_doStep_X5_pop : GoodIn wsX5_doStep (wsV RX5 43 RX5 yX5_pop wsX5_pop) := goodIn_app (goodIn_of _ (by decide +kernel)) ggX5_doStep_X5_pop
set_option maxRecDepth 20000 in
theorem ggX5_doStep_X5_joined : GoodIn wsX5_doStep wsX5_joined := goodIn_r _ [15] (by decide +kernel) (by decide +kernel)
set_option maxRecDepth 20000 in
theorem gX5_doStep_X5_joined : GoodIn wsX5_doStep (va_wsS RX5 51 yX5_joined wsX5_joined) := goodIn_app (goodIn_of _ (by decide +kernel)) ggX5_doStep_X5_joined
set_option maxRecDepth 20000 in
theorem ggX6_init_X3_init : GoodIn wsX6_init wsX3_init := goodIn_r _ [38, 39, 2, 3, 40, 41, 74, 75] (by decide +kernel) (by decide +kernel)
set_option maxRecDepth 20000 in
theorem gX6_init_X3_init_n9 : GoodIn wsX6_init (wsX3_init) := ggX6_init_X3_init
set_option maxRecDepth 20000 in
theorem ggX6_init_X1_init : GoodIn wsX6_init wsX1_init := goodIn_r _ [43, 44, 2, 3, 26, 45, 46, 47, 48, 49, 50, 94, 95, 96, 97, 98, 99, 100, 101, 102, 103, 104, 105, 106, 107, 108, 109, 110] (by decide +kernel) (by decide +kernel)
set_option maxRecDepth 20000 in
theorem gX6_init_X1_init_n18 : GoodIn wsX6_init (wsX1_init) := ggX6_init_X1_init
set_option maxRecDepth 20000 in
theorem ggX6_init_X5_init : GoodIn wsX6_init wsX5_init := goodIn_r _ [52, 53, 2, 3, 22, 54, 55, 111, 112, 113] (by decide +kernel) (by decide +kernel)
set_option maxRecDepth 20000 in
theorem gX6_init_X5_init_n27 : GoodIn wsX6_init (wsX5_init) := ggX6_init_X5_init
set_option maxRecDepth 20000 in
theorem ggX6_init_X2_init : GoodIn wsX6_init wsX2_init := goodIn_r _ [57, 58, 2, 3, 59, 60, 61, 62, 63, 64, 26, 65, 114, 115, 116, 117] (by decide +kernel) (by decide +kernel)
set_option maxRecDepth 20000 in
theorem gX6_init_X2_init_n40 : GoodIn wsX6_init (wsX2_init) := ggX6_init_X2_init
set_option maxRecDepth 20000 in
theorem ggX6_init_X0_init : GoodIn wsX6_init wsX0_init := goodIn_r _ [67, 68, 2, 3, 26, 69, 118] (by decide +kernel) (by decide +kernel)
set_option maxRecDepth 20000 in
theorem gX6_init_X0_init_n76 : GoodIn wsX6_init (wsX0_init) := ggX6_init_X0_init
set_option maxRecDepth 20000 in
theorem ggX6_init_J7_fill_53178 : GoodIn wsX6_init wsJ7_fill_53178 := goodIn_r _ [73] (by decide +kernel) (by decide +kernel)
set_option maxRecDepth 20000 in
theorem gX6_init_J7_fill_53178 : GoodIn wsX6_init (va_wsS RX6 81 yJ7_fill_53178 wsJ7_fill_53178) := goodIn_app (goodIn_of _ (by decide +kernel)) ggX6_init_J7_fill_53178
set_option maxRecDepth 20000 in
theorem ggX6_feed_X3_hasRoom : GoodIn wsX6_feed wsX3_hasRoom := goodIn_r _ [5, 6, 30, 31] (by decide +kernel) (by decide +kernel)
set_option maxRecDepth 20000 in
theorem gX6_feed_X3_hasRoom_n87 : GoodIn wsX6_feed (wsX3_hasRoom) := ggX6_feed_X3_hasRoom
set_option maxRecDepth 20000 in
theorem ggX6_feed_X3_addFour : GoodIn wsX6_feed wsX3_addFour := goodIn_r _ [9, 10, 6, 11, 2, 4, 3, 5, 30, 31] (by decide +kernel) (by decide +kernel)
set_option maxRecDepth 20000 in
theorem gX6_feed_X3_addFour_n91 : GoodIn wsX6_feed (wsX3_addFour) := ggX6_feed_X3_addFour
set_option maxRecDepth 20000 in
theorem ggX6_text_X1_readTape : GoodIn wsX6_text wsX1_readTape := goodIn_r _ [8, 9, 10, 11, 12, 13, 14, 15, 16, 17, 18, 19, 20, 6, 21, 22, 23, 24, 25, 26, 27, 28, 29, 30, 31, 32, 33, 34, 35, 36, 37, 38, 39, 40, 41, 42, 43, 44, 45, 46, 47, 48, 49, 50, 51, 52, 53, 54, 55, 56, 57, 58, 59, 60, 61, 62, 63, 64, 65, 66, 67, 68, 69, 70, 71, 72, 73, 74, 75, 76, 77, 78, 79, 80, 81, 82, 83, 84, 85, 86, 87, 88, 89, 90, 91, 92, 93, 94, 95, 96, 97, 98, 99, 100, 101, 102, 103, 104, 105, 106, 107, 108, 109, 110, 111, 112, 113, 114, 115, 116, 117, 118, 119, 120, 121, 122, 123, 124, 125, 126, 127, 128, 129, 130, 131, 132, 133, 134, 135, 136, 137, 138, 139, 140, 141, 142, 143, 144, 145, 146, 147, 148, 149, 150, 151, 152, 153, 154, 155, 156, 157, 158, 159, 160, 161, 162, 163, 164, 165, 166, 167, 168, 169, 170, 171, 172, 173, 174, 175, 176, 177, 178, 230, 231, 232, 233, 234, 235, 236, 237, 238, 239, 240, 241, 242, 243, 244, 245, 246, 228, 229] (by decide +kernel) (by decide +kernel)
set_option maxRecDepth 20000 in
theorem gX6_text_X1_readTape_n102 : GoodIn wsX6_text (wsX1_readTape) := ggX6_text_X1_readTape
set_option maxRecDepth 20000 in
theorem ggX6_text_X1_lastText : GoodIn wsX6_text wsX1_lastText := goodIn_r _ [181, 182, 183, 184, 128, 15, 129, 123, 150, 16, 185, 186, 187, 188, 189, 190, 191, 192, 193, 194, 195, 196, 103, 104, 105, 197, 198, 199, 200, 201, 202, 203, 204, 205, 206, 207, 208, 209, 247, 248, 249, 250, 230, 231, 232, 233, 234, 235, 236, 237, 238, 239, 240, 241, 242, 243, 244, 245, 246] (by decide +kernel) (by decide +kernel)
set_option maxRecDepth 20000 in
theorem gX6_text_X1_lastText_n109 : GoodIn wsX6_text (wsX1_lastText) := ggX6_text_X1_lastText
set_option maxRecDepth 20000 in
theorem ggX6_statements_X6_textOf : GoodIn wsX6_statements wsX6_textOf := goodIn_r _ [5, 6, 7, 12, 13, 14, 15, 16, 17, 18, 19, 20, 21, 22, 23, 24, 25, 26, 27, 28, 29] (by decide +kernel) (by decide +kernel)
set_option maxRecDepth 20000 in
theorem gX6_statements_X6_textOf : GoodIn wsX6_statements (wsV RX6 113 RX6 yX6_textOf wsX6_textOf) := goodIn_app (goodIn_of _ (by decide +kernel)) ggX6_statements_X6_textOf
set_option maxRecDepth 20000 in
theorem ggX6_force_X6_textOf : GoodIn wsX6_force wsX6_textOf := goodIn_r _ [7, 8, 9, 48, 49, 50, 51, 52, 53, 54, 55, 56, 57, 58, 59, 60, 61, 62, 63, 64, 65] (by decide +kernel) (by decide +kernel)
set_option maxRecDepth 20000 in
theorem gX6_force_X6_textOf : GoodIn wsX6_force (wsV RX6 113 RX6 yX6_textOf wsX6_textOf) := goodIn_app (goodIn_of _ (by decide +kernel)) ggX6_force_X6_textOf
set_option maxRecDepth 20000 in
theorem ggX6_force_X2_add : GoodIn wsX6_force wsX2_add := goodIn_r _ [13, 14, 15, 16, 17, 18, 19, 11, 20, 21, 22, 23, 24, 25, 26, 27, 28, 29, 30, 31, 32, 33, 34, 35, 36, 37, 38, 39, 40, 66, 67, 68, 69] (by decide +kernel) (by decide +kernel)
set_option maxRecDepth 20000 in
theorem gX6_force_X2_add_n123 : GoodIn wsX6_force (wsX2_add) := ggX6_force_X2_add
set_option maxRecDepth 20000 in
theorem ggX6_force_X2_set : GoodIn wsX6_force wsX2_set := goodIn_r _ [43, 16, 15, 44, 45, 46, 11, 47, 14, 66, 67, 68, 69] (by decide +kernel) (by decide +kernel)
set_option maxRecDepth 20000 in
theorem gX6_force_X2_set_n127 : GoodIn wsX6_force (wsX2_set) := ggX6_force_X2_set
set_option maxRecDepth 20000 in
theorem ggX6_inForce_X6_textInForce : GoodIn wsX6_inForce wsX6_textInForce := goodIn_r _ [5, 6, 7, 8, 9, 10, 11, 12, 13, 14, 15, 16, 17, 18, 19, 20, 21, 22, 23, 24, 25, 26, 27, 28, 29, 30, 31, 32, 33, 34, 35, 36, 37, 38, 39] (by decide +kernel) (by decide +kernel)
set_option maxRecDepth 20000 in
theorem gX6_inForce_X6_textInForce : GoodIn wsX6_inForce (wsV RX6 131 RX6 yX6_textInForce wsX6_textInForce) := goodIn_app (goodIn_of _ (by decide +kernel)) ggX6_inForce_X6_textInForce
set_option maxRecDepth 20000 in
theorem ggX6_would_X6_textOf : GoodIn wsX6_would wsX6_textOf := goodIn_r _ [8, 9, 10, 85, 86, 87, 88, 89, 90, 91, 92, 93, 94, 95, 96, 97, 98, 99, 100, 101, 102] (by decide +kernel) (by decide +kernel)
set_option maxRecDepth 20000 in
theorem gX6_would_X6_textOf : GoodIn wsX6_would (wsV RX6 113 RX6 yX6_textOf wsX6_textOf) := goodIn_app (goodIn_of _ (by decide +kernel)) ggX6_would_X6_textOf
set_option maxRecDepth 20000 in
theorem ggX6_would_X6_isOwed : GoodIn wsX6_would wsX6_isOwed := goodIn_r _ [14, 2, 15, 16, 17, 18, 19, 20, 21, 22, 23, 24, 25, 85, 86, 87, 88, 89, 90, 91, 92, 93, 94, 95, 96, 97, 98, 99, 100, 101, 102, 103, 104, 105, 106] (by decide +kernel) (by decide +kernel)
set_option maxRecDepth 20000 in
theorem gX6_would_X6_isOwed : GoodIn wsX6_would (wsV RX6 135 RX6 yX6_isOwed wsX6_isOwed) := goodIn_app (goodIn_of _ (by decide +kernel)) ggX6_would_X6_isOwed
set_option maxRecDepth 20000 in
theorem ggX6_would_X2_get : GoodIn wsX6_would wsX2_get := goodIn_r _ [23, 24, 20, 25, 15, 17, 16, 18, 19, 103, 104, 105, 106] (by decide +kernel) (by decide +kernel)
set_option maxRecDepth 20000 in
theorem gX6_would_X2_get_n139 : GoodIn wsX6_would (wsX2_get) := ggX6_would_X2_get
set_option maxRecDepth 20000 in
theorem ggX6_would_X6_leftOf : GoodIn wsX6_would wsX6_leftOf := goodIn_r _ [29, 2, 30, 31, 32, 7, 33, 11, 12, 13, 14, 15, 16, 17, 18, 19, 20, 21, 22, 23, 24, 25, 85, 86, 87, 88, 89, 90, 91, 92, 93, 94, 95, 96, 97, 98, 99, 100, 101, 102, 103, 104, 105, 106] (by decide +kernel) (by decide +kernel)
set_option maxRecDepth 20000 in
theorem gX6_would_X6_leftOf : GoodIn wsX6_would (wsV RX6 143 RX6 yX6_leftOf wsX6_leftOf) := goodIn_app (goodIn_of _ (by decide +kernel)) ggX6_would_X6_leftOf
set_option maxRecDepth 20000 in
theorem ggX6_would_X6_tellWeigher : GoodIn wsX6_would wsX6_tellWeigher := goodIn_r _ [37, 3, 2, 38, 21, 16, 22, 23, 24, 20, 25, 15, 17, 18, 19, 39, 40, 41, 42, 43, 44, 45, 46, 7, 47, 48, 49, 50, 51, 85, 86, 87, 88, 89, 90, 91, 92, 93, 94, 95, 96, 97, 98, 99, 100, 101, 102, 103, 104, 105, 106, 107, 108, 109] (by decide +kernel) (by decide +kernel)
set_option maxRecDepth 20000 in
theorem gX6_would_X6_tellWeigher : GoodIn wsX6_would (wsV RX6 147 RX6 yX6_tellWeigher wsX6_tellWeigher) := goodIn_app (goodIn_of _ (by decide +kernel)) ggX6_would_X6_tellWeigher
set_option maxRecDepth 20000 in
theorem ggX6_would_X5_firstHeld : GoodIn wsX6_would wsX5_firstHeld := goodIn_r _ [54, 55, 56, 57, 40, 58, 59, 60, 61, 62, 63, 64, 65, 66, 67, 68, 69, 70, 71, 72, 43, 73, 74, 75, 76, 77, 78, 79, 80, 81, 82, 83, 84, 110, 111, 112, 113, 107, 108, 109] (by decide +kernel) (by decide +kernel)
set_option maxRecDepth 20000 in
theorem gX6_would_X5_firstHeld_n151 : GoodIn wsX6_would (wsX5_firstHeld) := ggX6_would_X5_firstHeld
set_option maxRecDepth 20000 in
theorem ggX6_textInForce_X2_get : GoodIn wsX6_textInForce wsX2_get := goodIn_r _ [5, 6, 7, 8, 9, 10, 3, 11, 12, 31, 32, 33, 34] (by decide +kernel) (by decide +kernel)
set_option maxRecDepth 20000 in
theorem gX6_textInForce_X2_get_n139 : GoodIn wsX6_textInForce (wsX2_get) := ggX6_textInForce_X2_get
set_option maxRecDepth 20000 in
theorem ggX6_tellWeigher_X2_get : GoodIn wsX6_tellWeigher wsX2_get := goodIn_r _ [7, 8, 9, 10, 11, 12, 5, 13, 14, 47, 48, 49, 50] (by decide +kernel) (by decide +kernel)
set_option maxRecDepth 20000 in
theorem gX6_tellWeigher_X2_get_n139 : GoodIn wsX6_tellWeigher (wsX2_get) := ggX6_tellWeigher_X2_get
set_option maxRecDepth 20000 in
theorem ggX6_tellWeigher_X5_tell : GoodIn wsX6_tellWeigher wsX5_tell := goodIn_r _ [18, 19, 51, 52, 53] (by decide +kernel) (by decide +kernel)
set_option maxRecDepth 20000 in
theorem gX6_tellWeigher_X5_tell_n158 : GoodIn wsX6_tellWeigher (wsX5_tell) := ggX6_tellWeigher_X5_tell
set_option maxRecDepth 20000 in
theorem ggX6_tellWeigher_X6_isHeld : GoodIn wsX6_tellWeigher wsX6_isHeld := goodIn_r _ [24, 25, 26, 27, 23, 28, 29, 30, 31, 32, 33, 34, 35, 36, 37, 38, 39, 40, 41, 42, 43, 44, 45, 46] (by decide +kernel) (by decide +kernel)
set_option maxRecDepth 20000 in
theorem gX6_tellWeigher_X6_isHeld : GoodIn wsX6_tellWeigher (wsV RX6 162 RX6 yX6_isHeld wsX6_isHeld) := goodIn_app (goodIn_of _ (by decide +kernel)) ggX6_tellWeigher_X6_isHeld
set_option maxRecDepth 20000 in
theorem ggX6_shire_X6_isPerson : GoodIn wsX6_shire wsX6_isPerson := goodIn_r _ [7] (by decide +kernel) (by decide +kernel)
set_option maxRecDepth 20000 in
theorem gX6_shire_X6_isPerson : GoodIn wsX6_shire (va_wsS RX6 166 yX6_isPerson wsX6_isPerson) := goodIn_app (goodIn_of _ (by decide +kernel)) ggX6_shire_X6_isPerson
set_option maxRecDepth 20000 in
theorem ggX6_debt_X6_isPerson : GoodIn wsX6_debt wsX6_isPerson := goodIn_r _ [5] (by decide +kernel) (by decide +kernel)
set_option maxRecDepth 20000 in
theorem gX6_debt_X6_isPerson : GoodIn wsX6_debt (va_wsS RX6 166 yX6_isPerson wsX6_isPerson) := goodIn_app (goodIn_of _ (by decide +kernel)) ggX6_debt_X6_isPerson
set_option maxRecDepth 20000 in
theorem ggX6_debt_X6_isSum : GoodIn wsX6_debt wsX6_isSum := goodIn_r _ [8, 9] (by decide +kernel) (by decide +kernel)
set_option maxRecDepth 20000 in
theorem gX6_debt_X6_isSum : GoodIn wsX6_debt (va_wsS RX6 169 yX6_isSum wsX6_isSum) := goodIn_app (goodIn_of _ (by decide +kernel)) ggX6_debt_X6_isSum
set_option maxRecDepth 20000 in
theorem ggX6_debt_X2_hasRoom : GoodIn wsX6_debt wsX2_hasRoom := goodIn_r _ [13, 14, 15, 71, 72, 73, 74] (by decide +kernel) (by decide +kernel)
set_option maxRecDepth 20000 in
theorem gX6_debt_X2_hasRoom_n172 : GoodIn wsX6_debt (wsX2_hasRoom) := ggX6_debt_X2_hasRoom
set_option maxRecDepth 20000 in
theorem ggX6_debt_X6_addDebt : GoodIn wsX6_debt wsX6_addDebt := goodIn_r _ [19, 1, 20, 21, 11, 22, 23, 14, 24, 25, 26, 10, 12, 13, 15, 27, 28, 29, 30, 31, 32, 33, 34, 35, 36, 37, 38, 39, 40, 41, 42, 43, 44, 45, 46, 47, 48, 49, 50, 51, 52, 53, 54, 55, 56, 57, 58, 59, 60, 61, 62, 63, 64, 65, 66, 67, 68, 69, 70, 71, 72, 73, 74] (by decide +kernel) (by decide +kernel)
set_option maxRecDepth 20000 in
theorem gX6_debt_X6_addDebt : GoodIn wsX6_debt (wsV RX6 173 RX6 yX6_addDebt wsX6_addDebt) := goodIn_app (goodIn_of _ (by decide +kernel)) ggX6_debt_X6_addDebt
set_option maxRecDepth 20000 in
theorem ggX6_term_X6_shiresOwing : GoodIn wsX6_term wsX6_shiresOwing := goodIn_r _ [7, 8, 9, 56, 57, 58, 59, 60, 61, 62, 63, 64, 65, 66, 67, 68, 69, 70, 71, 72, 73] (by decide +kernel) (by decide +kernel)
set_option maxRecDepth 20000 in
theorem gX6_term_X6_shiresOwing : GoodIn wsX6_term (wsV RX6 177 RX6 yX6_shiresOwing wsX6_shiresOwing) := goodIn_app (goodIn_of _ (by decide +kernel)) ggX6_term_X6_shiresOwing
set_option maxRecDepth 20000 in
theorem ggX6_term_X2_hasRoom : GoodIn wsX6_term wsX2_hasRoom := goodIn_r _ [13, 14, 15, 74, 75, 76, 77] (by decide +kernel) (by decide +kernel)
set_option maxRecDepth 20000 in
theorem gX6_term_X2_hasRoom_n172 : GoodIn wsX6_term (wsX2_hasRoom) := ggX6_term_X2_hasRoom
set_option maxRecDepth 20000 in
theorem ggX6_term_X6_addFarmDebts : GoodIn wsX6_term wsX6_addFarmDebts := goodIn_r _ [19, 8, 9, 20, 21, 22, 6, 23, 2, 1, 24, 11, 25, 26, 14, 27, 28, 29, 10, 12, 13, 15, 30, 31, 32, 33, 34, 35, 36, 37, 38, 39, 40, 41, 42, 43, 44, 45, 46, 47, 48, 49, 50, 51, 52, 53, 54, 55, 56, 57, 58, 59, 60, 61, 62, 63, 64, 65, 66, 67, 68, 69, 70, 71, 72, 73, 74, 75, 76, 77] (by decide +kernel) (by decide +kernel)
set_option maxRecDepth 20000 in
theorem gX6_term_X6_addFarmDebts : GoodIn wsX6_term (wsV RX6 180 RX6 yX6_addFarmDebts wsX6_addFarmDebts) := goodIn_app (goodIn_of _ (by decide +kernel)) ggX6_term_X6_addFarmDebts
set_option maxRecDepth 20000 in
theorem ggX6_come_X6_isPerson : GoodIn wsX6_come wsX6_isPerson := goodIn_r _ [11] (by decide +kernel) (by decide +kernel)
set_option maxRecDepth 20000 in
theorem gX6_come_X6_isPerson : GoodIn wsX6_come (va_wsS RX6 166 yX6_isPerson wsX6_isPerson) := goodIn_app (goodIn_of _ (by decide +kernel)) ggX6_come_X6_isPerson
set_option maxRecDepth 20000 in
theorem ggX6_come_X6_owedDebtsOf : GoodIn wsX6_come wsX6_owedDebtsOf := goodIn_r _ [15, 16, 17, 18, 19, 10, 20, 21, 22, 23, 24, 25, 26, 27, 28, 29, 30, 31, 32, 33, 34, 35, 165, 166, 167, 168, 169, 170, 171, 172, 173, 174, 175, 176, 177, 178, 179, 180, 181, 182, 183, 184, 185, 186] (by decide +kernel) (by decide +kernel)
set_option maxRecDepth 20000 in
theorem gX6_come_X6_owedDebtsOf : GoodIn wsX6_come (wsV RX6 184 RX6 yX6_owedDebtsOf wsX6_owedDebtsOf) := goodIn_app (goodIn_of _ (by decide +kernel)) ggX6_come_X6_owedDebtsOf
set_option maxRecDepth 20000 in
theorem ggX6_come_X2_hasRoom : GoodIn wsX6_come wsX2_hasRoom := goodIn_r _ [38, 29, 39, 183, 184, 185, 186] (by decide +kernel) (by decide +kernel)
set_option maxRecDepth 20000 in
theorem gX6_come_X2_hasRoom_n172 : GoodIn wsX6_come (wsX2_hasRoom) := ggX6_come_X2_hasRoom
set_option maxRecDepth 20000 in
theorem ggX6_come_X6_askAll : GoodIn wsX6_come wsX6_askAll := goodIn_r _ [43, 3, 16, 44, 45, 46, 10, 47, 48, 31, 26, 32, 33, 34, 30, 35, 25, 27, 28, 29, 49, 50, 51, 52, 17, 18, 19, 20, 21, 22, 23, 24, 53, 54, 55, 56, 57, 58, 59, 60, 61, 62, 63, 64, 65, 66, 67, 8, 9, 11, 68, 69, 70, 71, 72, 73, 74, 75, 4, 76, 77, 78, 79, 80, 81, 82, 83, 84, 85, 86, 87, 88, 89, 90, 91, 92, 93, 94, 95, 96, 97, 98, 99, 100, 101, 102, 103, 104, 105, 106, 107, 108, 109, 110, 111, 112, 113, 114, 115, 116, 117, 118, 119, 120, 121, 122, 123, 124, 125, 126, 5, 127, 128, 129, 130, 36, 37, 38, 39, 131, 132, 133, 134, 135, 136, 137, 138, 139, 140, 141, 142, 143, 144, 145, 146, 147, 148, 149, 150, 151, 152, 153, 154, 155, 156, 157, 158, 159, 160, 161, 162, 163, 164, 165, 166, 167, 168, 169, 170, 171, 172, 173, 174, 175, 176, 177, 178, 179, 180, 181, 182, 183, 184, 185, 186, 187, 188, 189, 190, 191, 192, 193] (by decide +kernel) (by decide +kernel)
set_option maxRecDepth 20000 in
theorem gX6_come_X6_askAll : GoodIn wsX6_come (wsV RX6 191 RX6 yX6_askAll wsX6_askAll) := goodIn_app (goodIn_of _ (by decide +kernel)) ggX6_come_X6_askAll
set_option maxRecDepth 20000 in
theorem ggX6_free_X6_isPerson : GoodIn wsX6_free wsX6_isPerson := goodIn_r _ [5] (by decide +kernel) (by decide +kernel)
set_option maxRecDepth 20000 in
theorem gX6_free_X6_isPerson : GoodIn wsX6_free (va_wsS RX6 166 yX6_isPerson wsX6_isPerson) := goodIn_app (goodIn_of _ (by decide +kernel)) ggX6_free_X6_isPerson
set_option maxRecDepth 20000 in
theorem ggX6_heir_X6_isPerson : GoodIn wsX6_heir wsX6_isPerson := goodIn_r _ [6] (by decide +kernel) (by decide +kernel)
set_option maxRecDepth 20000 in
theorem gX6_heir_X6_isPerson : GoodIn wsX6_heir (va_wsS RX6 166 yX6_isPerson wsX6_isPerson) := goodIn_app (goodIn_of _ (by decide +kernel)) ggX6_heir_X6_isPerson
set_option maxRecDepth 20000 in
theorem ggX6_heir_X6_isOwedBy : GoodIn wsX6_heir wsX6_isOwedBy := goodIn_r _ [10, 1, 11, 12, 13, 5, 14, 15, 16, 17, 18, 19, 20, 21, 22, 23, 24, 25, 33, 34, 35, 36, 37, 38, 39, 40, 41, 42, 43, 44, 45, 46, 47, 48, 49, 50, 51, 52, 53, 54] (by decide +kernel) (by decide +kernel)
set_option maxRecDepth 20000 in
theorem gX6_heir_X6_isOwedBy : GoodIn wsX6_heir (wsV RX6 195 RX6 yX6_isOwedBy wsX6_isOwedBy) := goodIn_app (goodIn_of _ (by decide +kernel)) ggX6_heir_X6_isOwedBy
set_option maxRecDepth 20000 in
theorem ggX6_heir_X6_moveDebt : GoodIn wsX6_heir wsX6_moveDebt := goodIn_r _ [29, 1, 30, 16, 31, 32, 24, 20, 25, 15, 17, 18, 19, 21, 22, 23, 33, 34, 35, 36, 37, 38, 39, 40, 41, 42, 43, 44, 45, 46, 47, 48, 49, 50, 51, 52, 53, 54] (by decide +kernel) (by decide +kernel)
set_option maxRecDepth 20000 in
theorem gX6_heir_X6_moveDebt : GoodIn wsX6_heir (wsV RX6 199 RX6 yX6_moveDebt wsX6_moveDebt) := goodIn_app (goodIn_of _ (by decide +kernel)) ggX6_heir_X6_moveDebt
set_option maxRecDepth 20000 in
theorem ggX6_about_X2_has : GoodIn wsX6_about wsX2_has := goodIn_r _ [5, 6, 7, 31, 32, 33, 34] (by decide +kernel) (by decide +kernel)
set_option maxRecDepth 20000 in
theorem gX6_about_X2_has_n202 : GoodIn wsX6_about (wsX2_has) := ggX6_about_X2_has
set_option maxRecDepth 20000 in
theorem ggX6_about_X2_get : GoodIn wsX6_about wsX2_get := goodIn_r _ [10, 11, 7, 12, 2, 4, 3, 5, 6, 31, 32, 33, 34] (by decide +kernel) (by decide +kernel)
set_option maxRecDepth 20000 in
theorem gX6_about_X2_get_n139 : GoodIn wsX6_about (wsX2_get) := ggX6_about_X2_get
set_option maxRecDepth 20000 in
theorem ggX6_owe_X6_isPerson : GoodIn wsX6_owe wsX6_isPerson := goodIn_r _ [9] (by decide +kernel) (by decide +kernel)
set_option maxRecDepth 20000 in
theorem gX6_owe_X6_isPerson : GoodIn wsX6_owe (va_wsS RX6 166 yX6_isPerson wsX6_isPerson) := goodIn_app (goodIn_of _ (by decide +kernel)) ggX6_owe_X6_isPerson
set_option maxRecDepth 20000 in
theorem ggX6_owe_X6_leftOf : GoodIn wsX6_owe wsX6_leftOf := goodIn_r _ [13, 14, 15, 16, 17, 8, 18, 19, 20, 21, 22, 23, 24, 25, 26, 27, 28, 29, 30, 31, 32, 33, 38, 39, 40, 41, 42, 43, 44, 45, 46, 47, 48, 49, 50, 51, 52, 53, 54, 55, 56, 57, 58, 59] (by decide +kernel) (by decide +kernel)
set_option maxRecDepth 20000 in
theorem gX6_owe_X6_leftOf : GoodIn wsX6_owe (wsV RX6 143 RX6 yX6_leftOf wsX6_leftOf) := goodIn_app (goodIn_of _ (by decide +kernel)) ggX6_owe_X6_leftOf
set_option maxRecDepth 20000 in
theorem ggX6_owe_X6_owedDebtsOf : GoodIn wsX6_owe wsX6_owedDebtsOf := goodIn_r _ [37, 14, 15, 16, 17, 8, 18, 19, 20, 21, 22, 23, 24, 25, 26, 27, 28, 29, 30, 31, 32, 33, 38, 39, 40, 41, 42, 43, 44, 45, 46, 47, 48, 49, 50, 51, 52, 53, 54, 55, 56, 57, 58, 59] (by decide +kernel) (by decide +kernel)
set_option maxRecDepth 20000 in
theorem gX6_owe_X6_owedDebtsOf : GoodIn wsX6_owe (wsV RX6 184 RX6 yX6_owedDebtsOf wsX6_owedDebtsOf) := goodIn_app (goodIn_of _ (by decide +kernel)) ggX6_owe_X6_owedDebtsOf
set_option maxRecDepth 20000 in
theorem ggX6_isHeld_X6_isPerson : GoodIn wsX6_isHeld wsX6_isPerson := goodIn_r _ [5] (by decide +kernel) (by decide +kernel)
set_option maxRecDepth 20000 in
theorem gX6_isHeld_X6_isPerson : GoodIn wsX6_isHeld (va_wsS RX6 166 yX6_isPerson wsX6_isPerson) := goodIn_app (goodIn_of _ (by decide +kernel)) ggX6_isHeld_X6_isPerson
set_option maxRecDepth 20000 in
theorem ggX6_isOwed_X2_has : GoodIn wsX6_isOwed wsX2_has := goodIn_r _ [5, 6, 7, 31, 32, 33, 34] (by decide +kernel) (by decide +kernel)
set_option maxRecDepth 20000 in
theorem gX6_isOwed_X2_has_n202 : GoodIn wsX6_isOwed (wsX2_has) := ggX6_isOwed_X2_has
set_option maxRecDepth 20000 in
theorem ggX6_isOwed_X2_get : GoodIn wsX6_isOwed wsX2_get := goodIn_r _ [10, 11, 7, 12, 2, 4, 3, 5, 6, 31, 32, 33, 34] (by decide +kernel) (by decide +kernel)
set_option maxRecDepth 20000 in
theorem gX6_isOwed_X2_get_n139 : GoodIn wsX6_isOwed (wsX2_get) := ggX6_isOwed_X2_get
set_option maxRecDepth 20000 in
theorem ggX6_isOwedBy_X6_isOwed : GoodIn wsX6_isOwedBy wsX6_isOwed := goodIn_r _ [6, 1, 7, 8, 9, 10, 11, 12, 13, 14, 15, 16, 17, 18, 19, 20, 21, 22, 23, 24, 25, 26, 27, 28, 29, 30, 31, 32, 33, 34, 35, 36, 37, 38, 39] (by decide +kernel) (by decide +kernel)
set_option maxRecDepth 20000 in
theorem gX6_isOwedBy_X6_isOwed : GoodIn wsX6_isOwedBy (wsV RX6 135 RX6 yX6_isOwed wsX6_isOwed) := goodIn_app (goodIn_of _ (by decide +kernel)) ggX6_isOwedBy_X6_isOwed
set_option maxRecDepth 20000 in
theorem ggX6_isOwedBy_X2_get : GoodIn wsX6_isOwedBy wsX2_get := goodIn_r _ [15, 16, 12, 17, 7, 9, 8, 10, 11, 36, 37, 38, 39] (by decide +kernel) (by decide +kernel)
set_option maxRecDepth 20000 in
theorem gX6_isOwedBy_X2_get_n139 : GoodIn wsX6_isOwedBy (wsX2_get) := ggX6_isOwedBy_X2_get
set_option maxRecDepth 20000 in
theorem ggX6_leftOf_X6_isOwedBy : GoodIn wsX6_leftOf wsX6_isOwedBy := goodIn_r _ [6, 1, 7, 8, 9, 5, 10, 11, 12, 13, 14, 15, 16, 17, 18, 19, 20, 21, 22, 23, 24, 25, 26, 27, 28, 29, 30, 31, 32, 33, 34, 35, 36, 37, 38, 39, 40, 41, 42, 43] (by decide +kernel) (by decide +kernel)
set_option maxRecDepth 20000 in
theorem gX6_leftOf_X6_isOwedBy : GoodIn wsX6_leftOf (wsV RX6 195 RX6 yX6_isOwedBy wsX6_isOwedBy) := goodIn_app (goodIn_of _ (by decide +kernel)) ggX6_leftOf_X6_isOwedBy
set_option maxRecDepth 20000 in
theorem ggX6_leftOf_X2_get : GoodIn wsX6_leftOf wsX2_get := goodIn_r _ [19, 20, 16, 21, 11, 13, 12, 14, 15, 40, 41, 42, 43] (by decide +kernel) (by decide +kernel)
set_option maxRecDepth 20000 in
theorem gX6_leftOf_X2_get_n139 : GoodIn wsX6_leftOf (wsX2_get) := ggX6_leftOf_X2_get
set_option maxRecDepth 20000 in
theorem ggX6_owedDebtsOf_X6_isOwedBy : GoodIn wsX6_owedDebtsOf wsX6_isOwedBy := goodIn_r _ [6, 1, 7, 8, 9, 5, 10, 11, 12, 13, 14, 15, 16, 17, 18, 19, 20, 21, 22, 23, 24, 25, 26, 27, 28, 29, 30, 31, 32, 33, 34, 35, 36, 37, 38, 39, 40, 41, 42, 43] (by decide +kernel) (by decide +kernel)
set_option maxRecDepth 20000 in
theorem gX6_owedDebtsOf_X6_isOwedBy : GoodIn wsX6_owedDebtsOf (wsV RX6 195 RX6 yX6_isOwedBy wsX6_isOwedBy) := goodIn_app (goodIn_of _ (by decide +kernel)) ggX6_owedDebtsOf_X6_isOwedBy
set_option maxRecDepth 20000 in
theorem ggX6_addDebt_X2_add : GoodIn wsX6_addDebt wsX2_add := goodIn_r _ [6, 7, 8, 9, 10, 11, 12, 4, 13, 14, 15, 16, 17, 18, 19, 20, 21, 22, 23, 24, 25, 26, 27, 28, 29, 30, 31, 32, 33, 59, 60, 61, 62] (by decide +kernel) (by decide +kernel)
set_option maxRecDepth 20000 in
theorem gX6_addDebt_X2_add_n123 : GoodIn wsX6_addDebt (wsX2_add) := ggX6_addDebt_X2_add
set_option maxRecDepth 20000 in
theorem ggX6_addDebt_X2_set : GoodIn wsX6_addDebt wsX2_set := goodIn_r _ [36, 9, 8, 37, 38, 39, 4, 40, 7, 59, 60, 61, 62] (by decide +kernel) (by decide +kernel)
set_option maxRecDepth 20000 in
theorem gX6_addDebt_X2_set_n127 : GoodIn wsX6_addDebt (wsX2_set) := ggX6_addDebt_X2_set
set_option maxRecDepth 20000 in
theorem ggX6_addFarmDebts_X6_addDebt : GoodIn wsX6_addFarmDebts wsX6_addDebt := goodIn_r _ [7, 8, 9, 10, 11, 12, 13, 14, 15, 16, 17, 18, 19, 20, 21, 22, 23, 24, 25, 26, 27, 28, 29, 30, 31, 32, 33, 34, 35, 36, 37, 38, 39, 40, 41, 42, 43, 44, 45, 46, 47, 48, 49, 50, 51, 52, 53, 54, 55, 56, 57, 58, 59, 60, 61, 62, 63, 64, 65, 66, 67, 68, 69] (by decide +kernel) (by decide +kernel)
set_option maxRecDepth 20000 in
theorem gX6_addFarmDebts_X6_addDebt : GoodIn wsX6_addFarmDebts (wsV RX6 173 RX6 yX6_addDebt wsX6_addDebt) := goodIn_app (goodIn_of _ (by decide +kernel)) ggX6_addFarmDebts_X6_addDebt
set_option maxRecDepth 20000 in
theorem ggX6_moveDebt_X2_set : GoodIn wsX6_moveDebt wsX2_set := goodIn_r _ [5, 6, 7, 8, 9, 10, 3, 11, 12, 34, 35, 36, 37] (by decide +kernel) (by decide +kernel)
set_option maxRecDepth 20000 in
theorem gX6_moveDebt_X2_set_n127 : GoodIn wsX6_moveDebt (wsX2_set) := ggX6_moveDebt_X2_set
set_option maxRecDepth 20000 in
theorem ggX6_moveDebt_X2_get : GoodIn wsX6_moveDebt wsX2_get := goodIn_r _ [15, 6, 7, 8, 9, 10, 3, 11, 12, 34, 35, 36, 37] (by decide +kernel) (by decide +kernel)
set_option maxRecDepth 20000 in
theorem gX6_moveDebt_X2_get_n139 : GoodIn wsX6_moveDebt (wsX2_get) := ggX6_moveDebt_X2_get
set_option maxRecDepth 20000 in
theorem ggX6_askAll_X6_textInForce : GoodIn wsX6_askAll wsX6_textInForce := goodIn_r _ [7, 8, 9, 10, 11, 12, 13, 14, 15, 16, 17, 18, 19, 153, 154, 155, 156, 157, 158, 159, 160, 161, 162, 163, 164, 165, 166, 167, 168, 169, 170, 171, 172, 173, 174] (by decide +kernel) (by decide +kernel)
set_option maxRecDepth 20000 in
theorem gX6_askAll_X6_textInForce : GoodIn wsX6_askAll (wsV RX6 131 RX6 yX6_textInForce wsX6_textInForce) := goodIn_app (goodIn_of _ (by decide +kernel)) ggX6_askAll_X6_textInForce
set_option maxRecDepth 20000 in
theorem ggX6_askAll_X6_leftOf : GoodIn wsX6_askAll wsX6_leftOf := goodIn_r _ [23, 2, 24, 25, 26, 6, 27, 28, 29, 30, 31, 16, 10, 17, 18, 19, 14, 9, 11, 12, 13, 15, 153, 154, 155, 156, 157, 158, 159, 160, 161, 162, 163, 164, 165, 166, 167, 168, 169, 170, 171, 172, 173, 174] (by decide +kernel) (by decide +kernel)
set_option maxRecDepth 20000 in
theorem gX6_askAll_X6_leftOf : GoodIn wsX6_askAll (wsV RX6 143 RX6 yX6_leftOf wsX6_leftOf) := goodIn_app (goodIn_of _ (by decide +kernel)) ggX6_askAll_X6_leftOf
set_option maxRecDepth 20000 in
theorem ggX6_askAll_X6_isOwedBy : GoodIn wsX6_askAll wsX6_isOwedBy := goodIn_r _ [27, 2, 28, 29, 30, 6, 31, 16, 10, 17, 18, 19, 14, 9, 11, 12, 13, 15, 153, 154, 155, 156, 157, 158, 159, 160, 161, 162, 163, 164, 165, 166, 167, 168, 169, 170, 171, 172, 173, 174] (by decide +kernel) (by decide +kernel)
set_option maxRecDepth 20000 in
theorem gX6_askAll_X6_isOwedBy : GoodIn wsX6_askAll (wsV RX6 195 RX6 yX6_isOwedBy wsX6_isOwedBy) := goodIn_app (goodIn_of _ (by decide +kernel)) ggX6_askAll_X6_isOwedBy
set_option maxRecDepth 20000 in
theorem ggX6_askAll_X2_get : GoodIn wsX6_askAll wsX2_get := goodIn_r _ [12, 13, 14, 15, 16, 17, 10, 18, 19, 171, 172, 173, 174] (by decide +kernel) (by decide +kernel)
set_option maxRecDepth 20000 in
theorem gX6_askAll_X2_get_n139 : GoodIn wsX6_askAll (wsX2_get) := ggX6_askAll_X2_get
set_option maxRecDepth 20000 in
theorem ggX6_askAll_X6_tellWeigher : GoodIn wsX6_askAll wsX6_tellWeigher := goodIn_r _ [35, 36, 2, 1, 9, 10, 11, 12, 13, 14, 15, 16, 17, 18, 19, 37, 38, 39, 40, 41, 42, 43, 44, 6, 45, 46, 47, 48, 49, 153, 154, 155, 156, 157, 158, 159, 160, 161, 162, 163, 164, 165, 166, 167, 168, 169, 170, 171, 172, 173, 174, 175, 176, 177] (by decide +kernel) (by decide +kernel)
set_option maxRecDepth 20000 in
theorem gX6_askAll_X6_tellWeigher : GoodIn wsX6_askAll (wsV RX6 147 RX6 yX6_tellWeigher wsX6_tellWeigher) := goodIn_app (goodIn_of _ (by decide +kernel)) ggX6_askAll_X6_tellWeigher
set_option maxRecDepth 20000 in
theorem ggX6_askAll_X6_askDebt : GoodIn wsX6_askAll wsX6_askDebt := goodIn_r _ [53, 36, 2, 54, 55, 56, 57, 58, 59, 60, 61, 6, 62, 63, 64, 65, 38, 66, 67, 68, 69, 70, 71, 72, 73, 74, 75, 76, 77, 78, 79, 80, 81, 82, 83, 84, 85, 41, 86, 87, 88, 89, 90, 91, 92, 93, 94, 95, 96, 97, 98, 99, 100, 101, 102, 103, 104, 105, 9, 10, 11, 12, 13, 14, 15, 16, 17, 18, 19, 106, 107, 108, 109, 110, 111, 112, 113, 114, 115, 116, 117, 118, 119, 120, 121, 122, 123, 124, 125, 126, 127, 128, 129, 130, 131, 132, 133, 134, 135, 136, 137, 138, 139, 140, 141, 142, 143, 1, 144, 145, 146, 147, 148, 46, 149, 150, 151, 152, 47, 48, 49, 153, 154, 155, 156, 157, 158, 159, 160, 161, 162, 163, 164, 165, 166, 167, 168, 169, 170, 171, 172, 173, 174, 178, 179, 180, 181, 175, 176, 177] (by decide +kernel) (by decide +kernel)
set_option maxRecDepth 20000 in
theorem gX6_askAll_X6_askDebt : GoodIn wsX6_askAll (wsV RX6 207 RX6 yX6_askDebt wsX6_askDebt) := goodIn_app (goodIn_of _ (by decide +kernel)) ggX6_askAll_X6_askDebt
set_option maxRecDepth 20000 in
theorem ggX6_askDebt_X6_textOf : GoodIn wsX6_askDebt wsX6_textOf := goodIn_r _ [12, 13, 14, 121, 122, 123, 124, 125, 126, 127, 128, 129, 130, 131, 132, 133, 134, 135, 136, 137, 138] (by decide +kernel) (by decide +kernel)
set_option maxRecDepth 20000 in
theorem gX6_askDebt_X6_textOf : GoodIn wsX6_askDebt (wsV RX6 113 RX6 yX6_textOf wsX6_textOf) := goodIn_app (goodIn_of _ (by decide +kernel)) ggX6_askDebt_X6_textOf
set_option maxRecDepth 20000 in
theorem ggX6_askDebt_X5_firstHeld : GoodIn wsX6_askDebt wsX5_firstHeld := goodIn_r _ [18, 19, 20, 21, 16, 22, 23, 24, 25, 26, 27, 28, 29, 30, 31, 32, 33, 34, 35, 36, 37, 38, 39, 40, 41, 42, 43, 44, 45, 46, 47, 48, 49, 143, 144, 145, 146, 147, 148, 149] (by decide +kernel) (by decide +kernel)
set_option maxRecDepth 20000 in
theorem gX6_askDebt_X5_firstHeld_n151 : GoodIn wsX6_askDebt (wsX5_firstHeld) := ggX6_askDebt_X5_firstHeld
set_option maxRecDepth 20000 in
theorem ggX6_askDebt_X4_actOf : GoodIn wsX6_askDebt wsX4_actOf := goodIn_r _ [52, 53, 143, 144, 145, 146] (by decide +kernel) (by decide +kernel)
set_option maxRecDepth 20000 in
theorem gX6_askDebt_X4_actOf_n211 : GoodIn wsX6_askDebt (wsX4_actOf) := ggX6_askDebt_X4_actOf
set_option maxRecDepth 20000 in
theorem ggX6_askDebt_X4_shareOf : GoodIn wsX6_askDebt wsX4_shareOf := goodIn_r _ [56, 57, 143, 144, 145, 146] (by decide +kernel) (by decide +kernel)
set_option maxRecDepth 20000 in
theorem gX6_askDebt_X4_shareOf_n214 : GoodIn wsX6_askDebt (wsX4_shareOf) := ggX6_askDebt_X4_shareOf
set_option maxRecDepth 20000 in
theorem ggX6_askDebt_X2_get : GoodIn wsX6_askDebt wsX2_get := goodIn_r _ [61, 62, 63, 64, 65, 66, 59, 67, 68, 139, 140, 141, 142] (by decide +kernel) (by decide +kernel)
set_option maxRecDepth 20000 in
theorem gX6_askDebt_X2_get_n139 : GoodIn wsX6_askDebt (wsX2_get) := ggX6_askDebt_X2_get
set_option maxRecDepth 20000 in
theorem ggX6_askDebt_X6_splitStick : GoodIn wsX6_askDebt wsX6_splitStick := goodIn_r _ [72, 73, 74, 59, 75, 76, 68, 63, 62, 77, 78, 79, 80, 81, 82, 83, 84, 85, 86, 87, 88, 89, 90, 91, 92, 93, 94, 5, 95, 96, 97, 98, 99, 100, 101, 102, 64, 65, 66, 67, 121, 122, 123, 124, 125, 126, 127, 128, 129, 130, 131, 132, 133, 134, 135, 136, 137, 138, 139, 140, 141, 142] (by decide +kernel) (by decide +kernel)
set_option maxRecDepth 20000 in
theorem gX6_askDebt_X6_splitStick : GoodIn wsX6_askDebt (wsV RX6 223 RX6 yX6_splitStick wsX6_splitStick) := goodIn_app (goodIn_of _ (by decide +kernel)) ggX6_askDebt_X6_splitStick
set_option maxRecDepth 20000 in
theorem ggX6_askDebt_X6_writeLine : GoodIn wsX6_askDebt wsX6_writeLine := goodIn_r _ [106, 7, 107, 74, 59, 75, 76, 68, 63, 62, 77, 78, 79, 80, 81, 82, 83, 84, 85, 86, 87, 88, 89, 90, 91, 92, 93, 94, 5, 95, 96, 97, 98, 99, 100, 101, 102, 64, 65, 66, 67, 121, 122, 123, 124, 125, 126, 127, 128, 129, 130, 131, 132, 133, 134, 135, 136, 137, 138, 139, 140, 141, 142] (by decide +kernel) (by decide +kernel)
set_option maxRecDepth 20000 in
theorem gX6_askDebt_X6_writeLine : GoodIn wsX6_askDebt (wsV RX6 226 RX6 yX6_writeLine wsX6_writeLine) := goodIn_app (goodIn_of _ (by decide +kernel)) ggX6_askDebt_X6_writeLine
set_option maxRecDepth 20000 in
theorem ggX6_askDebt_X2_set : GoodIn wsX6_askDebt wsX2_set := goodIn_r _ [102, 62, 63, 64, 65, 66, 59, 67, 68, 139, 140, 141, 142] (by decide +kernel) (by decide +kernel)
set_option maxRecDepth 20000 in
theorem gX6_askDebt_X2_set_n127 : GoodIn wsX6_askDebt (wsX2_set) := ggX6_askDebt_X2_set
set_option maxRecDepth 20000 in
theorem ggX6_askDebt_X6_doAct : GoodIn wsX6_askDebt wsX6_doAct := goodIn_r _ [111, 2, 112, 113, 58, 59, 60, 61, 62, 63, 64, 65, 66, 67, 68, 100, 101, 102, 114, 115, 116, 11, 117, 118, 119, 120, 121, 122, 123, 124, 125, 126, 127, 128, 129, 130, 131, 132, 133, 134, 135, 136, 137, 138, 139, 140, 141, 142] (by decide +kernel) (by decide +kernel)
set_option maxRecDepth 20000 in
theorem gX6_askDebt_X6_doAct : GoodIn wsX6_askDebt (wsV RX6 230 RX6 yX6_doAct wsX6_doAct) := goodIn_app (goodIn_of _ (by decide +kernel)) ggX6_askDebt_X6_doAct
set_option maxRecDepth 20000 in
theorem ggX6_doAct_X2_get : GoodIn wsX6_doAct wsX2_get := goodIn_r _ [7, 8, 9, 10, 11, 12, 5, 13, 14, 44, 45, 46, 47] (by decide +kernel) (by decide +kernel)
set_option maxRecDepth 20000 in
theorem gX6_doAct_X2_get_n139 : GoodIn wsX6_doAct (wsX2_get) := ggX6_doAct_X2_get
set_option maxRecDepth 20000 in
theorem ggX6_doAct_X2_set : GoodIn wsX6_doAct wsX2_set := goodIn_r _ [17, 8, 9, 10, 11, 12, 5, 13, 14, 44, 45, 46, 47] (by decide +kernel) (by decide +kernel)
set_option maxRecDepth 20000 in
theorem gX6_doAct_X2_set_n127 : GoodIn wsX6_doAct (wsX2_set) := ggX6_doAct_X2_set
set_option maxRecDepth 20000 in
theorem ggX6_doAct_X6_moveDebt : GoodIn wsX6_doAct wsX6_moveDebt := goodIn_r _ [22, 1, 15, 5, 16, 17, 8, 9, 10, 11, 12, 13, 14, 4, 6, 7, 26, 27, 28, 29, 30, 31, 32, 33, 34, 35, 36, 37, 38, 39, 40, 41, 42, 43, 44, 45, 46, 47] (by decide +kernel) (by decide +kernel)
set_option maxRecDepth 20000 in
theorem gX6_doAct_X6_moveDebt : GoodIn wsX6_doAct (wsV RX6 199 RX6 yX6_moveDebt wsX6_moveDebt) := goodIn_app (goodIn_of _ (by decide +kernel)) ggX6_doAct_X6_moveDebt
set_option maxRecDepth 20000 in
theorem ggX6_doAct_X6_isPerson : GoodIn wsX6_doAct wsX6_isPerson := goodIn_r _ [25] (by decide +kernel) (by decide +kernel)
set_option maxRecDepth 20000 in
theorem gX6_doAct_X6_isPerson : GoodIn wsX6_doAct (va_wsS RX6 166 yX6_isPerson wsX6_isPerson) := goodIn_app (goodIn_of _ (by decide +kernel)) ggX6_doAct_X6_isPerson
set_option maxRecDepth 20000 in
theorem ggX6_splitStick_X2_add : GoodIn wsX6_splitStick wsX2_add := goodIn_r _ [5, 6, 7, 8, 9, 10, 11, 3, 12, 13, 14, 15, 16, 17, 18, 19, 20, 21, 22, 23, 24, 25, 26, 27, 28, 29, 30, 31, 32, 58, 59, 60, 61] (by decide +kernel) (by decide +kernel)
set_option maxRecDepth 20000 in
theorem gX6_splitStick_X2_add_n123 : GoodIn wsX6_splitStick (wsX2_add) := ggX6_splitStick_X2_add
set_option maxRecDepth 20000 in
theorem ggX6_splitStick_X2_set : GoodIn wsX6_splitStick wsX2_set := goodIn_r _ [35, 8, 7, 36, 37, 38, 3, 39, 6, 58, 59, 60, 61] (by decide +kernel) (by decide +kernel)
set_option maxRecDepth 20000 in
theorem gX6_splitStick_X2_set_n127 : GoodIn wsX6_splitStick (wsX2_set) := ggX6_splitStick_X2_set
set_option maxRecDepth 20000 in
theorem ggX6_writeLine_X2_add : GoodIn wsX6_writeLine wsX2_add := goodIn_r _ [6, 7, 8, 9, 10, 11, 12, 4, 13, 14, 15, 16, 17, 18, 19, 20, 21, 22, 23, 24, 25, 26, 27, 28, 29, 30, 31, 32, 33, 59, 60, 61, 62] (by decide +kernel) (by decide +kernel)
set_option maxRecDepth 20000 in
theorem gX6_writeLine_X2_add_n123 : GoodIn wsX6_writeLine (wsX2_add) := ggX6_writeLine_X2_add
set_option maxRecDepth 20000 in
theorem ggX6_writeLine_X2_set : GoodIn wsX6_writeLine wsX2_set := goodIn_r _ [36, 9, 8, 37, 38, 39, 4, 40, 7, 59, 60, 61, 62] (by decide +kernel) (by decide +kernel)
set_option maxRecDepth 20000 in
theorem gX6_writeLine_X2_set_n127 : GoodIn wsX6_writeLine (wsX2_set) := ggX6_writeLine_X2_set
set_option maxRecDepth 20000 in
theorem ggX6_line_X2_has : GoodIn wsX6_line wsX2_has := goodIn_r _ [5, 6, 7, 31, 32, 33, 34] (by decide +kernel) (by decide +kernel)
set_option maxRecDepth 20000 in
theorem gX6_line_X2_has_n202 : GoodIn wsX6_line (wsX2_has) := ggX6_line_X2_has
set_option maxRecDepth 20000 in
theorem ggX6_line_X2_get : GoodIn wsX6_line wsX2_get := goodIn_r _ [10, 11, 7, 12, 2, 4, 3, 5, 6, 31, 32, 33, 34] (by decide +kernel) (by decide +kernel)
set_option maxRecDepth 20000 in
theorem gX6_line_X2_get_n139 : GoodIn wsX6_line (wsX2_get) := ggX6_line_X2_get
set_option maxRecDepth 20000 in
theorem ggX6_as_X2_has : GoodIn wsX6_as wsX2_has := goodIn_r _ [7, 8, 9, 33, 34, 35, 36] (by decide +kernel) (by decide +kernel)
set_option maxRecDepth 20000 in
theorem gX6_as_X2_has_n202 : GoodIn wsX6_as (wsX2_has) := ggX6_as_X2_has
set_option maxRecDepth 20000 in
theorem ggX6_as_X2_get : GoodIn wsX6_as wsX2_get := goodIn_r _ [12, 13, 9, 14, 4, 6, 5, 7, 8, 33, 34, 35, 36] (by decide +kernel) (by decide +kernel)
set_option maxRecDepth 20000 in
theorem gX6_as_X2_get_n139 : GoodIn wsX6_as (wsX2_get) := ggX6_as_X2_get
set_option maxRecDepth 20000 in
theorem ggX6_stick_X2_has : GoodIn wsX6_stick wsX2_has := goodIn_r _ [5, 6, 7, 35, 36, 37, 38] (by decide +kernel) (by decide +kernel)
set_option maxRecDepth 20000 in
theorem gX6_stick_X2_has_n202 : GoodIn wsX6_stick (wsX2_has) := ggX6_stick_X2_has
set_option maxRecDepth 20000 in
theorem ggX6_stick_X2_get : GoodIn wsX6_stick wsX2_get := goodIn_r _ [10, 11, 7, 12, 2, 4, 3, 5, 6, 35, 36, 37, 38] (by decide +kernel) (by decide +kernel)
set_option maxRecDepth 20000 in
theorem gX6_stick_X2_get_n139 : GoodIn wsX6_stick (wsX2_get) := ggX6_stick_X2_get
set_option maxRecDepth 20000 in
theorem ggX6_stick_X0_notches : GoodIn wsX6_stick wsX0_notches := goodIn_r _ [15, 16] (by decide +kernel) (by decide +kernel)
set_option maxRecDepth 20000 in
theorem gX6_stick_X0_notches_n236 : GoodIn wsX6_stick (wsX0_notches) := ggX6_stick_X0_notches
set_option maxRecDepth 20000 in
theorem ggX6_fits_X2_has : GoodIn wsX6_fits wsX2_has := goodIn_r _ [6, 7, 8, 36, 37, 38, 39] (by decide +kernel) (by decide +kernel)
set_option maxRecDepth 20000 in
theorem gX6_fits_X2_has_n202 : GoodIn wsX6_fits (wsX2_has) := ggX6_fits_X2_has
set_option maxRecDepth 20000 in
theorem ggX6_fits_X2_get : GoodIn wsX6_fits wsX2_get := goodIn_r _ [11, 12, 8, 13, 3, 5, 4, 6, 7, 36, 37, 38, 39] (by decide +kernel) (by decide +kernel)
set_option maxRecDepth 20000 in
theorem gX6_fits_X2_get_n139 : GoodIn wsX6_fits (wsX2_get) := ggX6_fits_X2_get
set_option maxRecDepth 20000 in
theorem ggX6_fits_X0_notches : GoodIn wsX6_fits wsX0_notches := goodIn_r _ [16, 17] (by decide +kernel) (by decide +kernel)
set_option maxRecDepth 20000 in
theorem gX6_fits_X0_notches_n236 : GoodIn wsX6_fits (wsX0_notches) := ggX6_fits_X0_notches
set_option maxRecDepth 20000 in
theorem ggX6_lay_X6_isSum : GoodIn wsX6_lay wsX6_isSum := goodIn_r _ [5, 6] (by decide +kernel) (by decide +kernel)
set_option maxRecDepth 20000 in
theorem gX6_lay_X6_isSum : GoodIn wsX6_lay (va_wsS RX6 169 yX6_isSum wsX6_isSum) := goodIn_app (goodIn_of _ (by decide +kernel)) ggX6_lay_X6_isSum
set_option maxRecDepth 20000 in
theorem ggX6_lay_X0_layDown : GoodIn wsX6_lay wsX0_layDown := goodIn_r _ [10, 11, 12, 13, 14, 8, 15, 16, 35] (by decide +kernel) (by decide +kernel)
set_option maxRecDepth 20000 in
theorem gX6_lay_X0_layDown_n239 : GoodIn wsX6_lay (wsX0_layDown) := ggX6_lay_X0_layDown
set_option maxRecDepth 20000 in
theorem ggX6_take_X6_isSum : GoodIn wsX6_take wsX6_isSum := goodIn_r _ [5, 6] (by decide +kernel) (by decide +kernel)
set_option maxRecDepth 20000 in
theorem gX6_take_X6_isSum : GoodIn wsX6_take (va_wsS RX6 169 yX6_isSum wsX6_isSum) := goodIn_app (goodIn_of _ (by decide +kernel)) ggX6_take_X6_isSum
set_option maxRecDepth 20000 in
theorem ggX6_take_X0_lies : GoodIn wsX6_take wsX0_lies := goodIn_r _ [10, 11, 12, 43] (by decide +kernel) (by decide +kernel)
set_option maxRecDepth 20000 in
theorem gX6_take_X0_lies_n242 : GoodIn wsX6_take (wsX0_lies) := ggX6_take_X0_lies
set_option maxRecDepth 20000 in
theorem ggX6_take_X0_takeUp : GoodIn wsX6_take wsX0_takeUp := goodIn_r _ [15, 11, 16, 17, 8, 18, 19, 20, 21, 22, 23, 24, 43] (by decide +kernel) (by decide +kernel)
set_option maxRecDepth 20000 in
theorem gX6_take_X0_takeUp_n246 : GoodIn wsX6_take (wsX0_takeUp) := ggX6_take_X0_takeUp
set_option maxRecDepth 20000 in
theorem ggX6_sum_X0_lies : GoodIn wsX6_sum wsX0_lies := goodIn_r _ [9, 10, 11, 51] (by decide +kernel) (by decide +kernel)
set_option maxRecDepth 20000 in
theorem gX6_sum_X0_lies_n242 : GoodIn wsX6_sum (wsX0_lies) := ggX6_sum_X0_lies
set_option maxRecDepth 20000 in
theorem ggX6_sum_X6_allCredits : GoodIn wsX6_sum wsX6_allCredits := goodIn_r _ [16, 17, 33, 34, 35, 36, 37, 38, 39, 40, 41, 42, 43, 44, 45, 46, 47, 48, 49, 50] (by decide +kernel) (by decide +kernel)
set_option maxRecDepth 20000 in
theorem gX6_sum_X6_allCredits : GoodIn wsX6_sum (wsV RX6 252 RX6 yX6_allCredits wsX6_allCredits) := goodIn_app (goodIn_of _ (by decide +kernel)) ggX6_sum_X6_allCredits
set_option maxRecDepth 20000 in
theorem ggX6_sum_X2_total : GoodIn wsX6_sum wsX2_total := goodIn_r _ [21, 22, 23, 24, 25, 19, 26, 27, 28, 29, 30, 31, 32, 52, 53, 54, 55] (by decide +kernel) (by decide +kernel)
set_option maxRecDepth 20000 in
theorem gX6_sum_X2_total_n255 : GoodIn wsX6_sum (wsX2_total) := ggX6_sum_X2_total
set_option maxRecDepth 20000 in
theorem ggJ0_length_8abf5_J0_coder_7d493 : GoodIn wsJ0_length_8abf5 wsJ0_coder_7d493 := goodIn_r _ [6, 7, 8] (by decide +kernel) (by decide +kernel)
set_option maxRecDepth 20000 in
theorem gJ0_length_8abf5_J0_coder_7d493 : GoodIn wsJ0_length_8abf5 (wsV RJ0 335 RJ0 yJ0_coder_7d493 wsJ0_coder_7d493) := goodIn_app (goodIn_of _ (by decide +kernel)) ggJ0_length_8abf5_J0_coder_7d493
set_option maxRecDepth 20000 in
theorem ggJ0_charAt_5068e_J0_isLatin1_aae02 : GoodIn wsJ0_charAt_5068e wsJ0_isLatin1_aae02 := goodIn_r _ [6, 7, 8] (by decide +kernel) (by decide +kernel)
set_option maxRecDepth 20000 in
theorem gJ0_charAt_5068e_J0_isLatin1_aae02 : GoodIn wsJ0_charAt_5068e (wsV RJ0 492 RJ0 yJ0_isLatin1_aae02 wsJ0_isLatin1_aae02) := goodIn_app (goodIn_of _ (by decide +kernel)) ggJ0_charAt_5068e_J0_isLatin1_aae02
set_option maxRecDepth 20000 in
theorem ggJ0_charAt_5068e_J1_charAt_3b067 : GoodIn wsJ0_charAt_5068e wsJ1_charAt_3b067 := goodIn_r _ [12, 13, 14, 5, 15, 16, 17, 18, 19, 20] (by decide +kernel) (by decide +kernel)
set_option maxRecDepth 20000 in
theorem gJ0_charAt_5068e_J1_charAt_3b067 : GoodIn wsJ0_charAt_5068e (va_wsS RJ0 495 yJ1_charAt_3b067 wsJ1_charAt_3b067) := goodIn_app (goodIn_of _ (by decide +kernel)) ggJ0_charAt_5068e_J1_charAt_3b067
set_option maxRecDepth 20000 in
theorem ggJ0_charAt_5068e_J2_charAt_3b067 : GoodIn wsJ0_charAt_5068e wsJ2_charAt_3b067 := goodIn_r _ [24, 25, 26, 23, 27, 28, 29, 30, 31, 14, 5, 15, 16, 17, 18, 19, 20, 32, 33, 34, 35, 36, 37] (by decide +kernel) (by decide +kernel)
set_option maxRecDepth 20000 in
theorem gJ0_charAt_5068e_J2_charAt_3b067 : GoodIn wsJ0_charAt_5068e (va_wsS RJ0 498 yJ2_charAt_3b067 wsJ2_charAt_3b067) := goodIn_app (goodIn_of _ (by decide +kernel)) ggJ0_charAt_5068e_J2_charAt_3b067
set_option maxRecDepth 20000 in
theorem ggJ0_checkIndex_df160_J3_checkIndex_8e157 : GoodIn wsJ0_checkIndex_df160 wsJ3_checkIndex_8e157 := goodIn_r _ [5] (by decide +kernel) (by decide +kernel)
set_option maxRecDepth 20000 in
theorem gJ0_checkIndex_df160_J3_checkIndex_8e157 : GoodIn wsJ0_checkIndex_df160 (va_wsS RJ0 1059 yJ3_checkIndex_8e157 wsJ3_checkIndex_8e157) := goodIn_app (goodIn_of _ (by decide +kernel)) ggJ0_checkIndex_df160_J3_checkIndex_8e157
set_option maxRecDepth 20000 in
theorem ggJ1_charAt_3b067_J0_checkIndex_df160 : GoodIn wsJ1_charAt_3b067 wsJ0_checkIndex_df160 := goodIn_r _ [4, 5, 6, 7, 8, 9] (by decide +kernel) (by decide +kernel)
set_option maxRecDepth 20000 in
theorem gJ1_charAt_3b067_J0_checkIndex_df160 : GoodIn wsJ1_charAt_3b067 (va_wsS RJ1 9 yJ0_checkIndex_df160 wsJ0_checkIndex_df160) := goodIn_app (goodIn_of _ (by decide +kernel)) ggJ1_charAt_3b067_J0_checkIndex_df160
