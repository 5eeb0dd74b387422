theorem dX7_statement_42 : decode cX7_statement 42 = .ok (.bipush 106, 2) := of_row (r := (42, .bipush 106, 2)) DX7_statement_b0 26 rfl
theorem dX7_statement_44 : decode cX7_statement 44 = .ok (.if_icmp .ne 18, 3) := of_row (r := (44, .if_icmp .ne 18, 3)) DX7_statement_b0 27 rfl
theorem dX7_statement_47 : decode cX7_statement 47 = .ok (.aload_n 0, 1) := of_row (r := (47, .aload_n 0, 1)) DX7_statement_b0 28 rfl
theorem dX7_statement_48 : decode cX7_statement 48 = .ok (.invokevirtual 214, 3) := of_row (r := (48, .invokevirtual 214, 3)) DX7_statement_b0 29 rfl
theorem dX7_statement_51 : decode cX7_statement 51 = .ok (.aload_n 0, 1) := of_row (r := (51, .aload_n 0, 1)) DX7_statement_b0 30 rfl
theorem dX7_statement_52 : decode cX7_statement 52 = .ok (.invokevirtual 226, 3) := of_row (r := (52, .invokevirtual 226, 3)) DX7_statement_b0 31 rfl
theorem dX7_statement_55 : decode cX7_statement 55 = .ok (.aload_n 0, 1) := of_row (r := (55, .aload_n 0, 1)) DX7_statement_b0 32 rfl
theorem dX7_statement_56 : decode cX7_statement 56 = .ok (.bipush 107, 2) := of_row (r := (56, .bipush 107, 2)) DX7_statement_b0 33 rfl
theorem dX7_statement_58 : decode cX7_statement 58 = .ok (.invokevirtual 229, 3) := of_row (r := (58, .invokevirtual 229, 3)) DX7_statement_b0 34 rfl
theorem dX7_statement_61 : decode cX7_statement 61 = .ok (.istore_n 3, 1) := of_row (r := (61, .istore_n 3, 1)) DX7_statement_b0 35 rfl
theorem dX7_statement_62 : decode cX7_statement 62 = .ok (.aload_n 0, 1) := of_row (r := (62, .aload_n 0, 1)) DX7_statement_b0 36 rfl
theorem dX7_statement_63 : decode cX7_statement 63 = .ok (.getfield 26, 3) := of_row (r := (63, .getfield 26, 3)) DX7_statement_b0 37 rfl
theorem dX7_statement_66 : decode cX7_statement 66 = .ok (.iload_n 2, 1) := of_row (r := (66, .iload_n 2, 1)) DX7_statement_b0 38 rfl
theorem dX7_statement_67 : decode cX7_statement 67 = .ok (.aload_n 0, 1) := of_row (r := (67, .aload_n 0, 1)) DX7_statement_b0 39 rfl
theorem dX7_statement_68 : decode cX7_statement 68 = .ok (.getfield 217, 3) := of_row (r := (68, .getfield 217, 3)) DX7_statement_b0 40 rfl
theorem dX7_statement_71 : decode cX7_statement 71 = .ok (.iastore, 1) := of_row (r := (71, .iastore, 1)) DX7_statement_b0 41 rfl
theorem dX7_statement_72 : decode cX7_statement 72 = .ok (.aload_n 0, 1) := of_row (r := (72, .aload_n 0, 1)) DX7_statement_b0 42 rfl
theorem dX7_statement_73 : decode cX7_statement 73 = .ok (.getfield 208, 3) := of_row (r := (73, .getfield 208, 3)) DX7_statement_b0 43 rfl
theorem dX7_statement_76 : decode cX7_statement 76 = .ok (.ifCond .lt 4, 3) := of_row (r := (76, .ifCond .lt 4, 3)) DX7_statement_b0 44 rfl
theorem dX7_statement_79 : decode cX7_statement 79 = .ok (.return_, 1) := of_row (r := (79, .return_, 1)) DX7_statement_b0 45 rfl
theorem dX7_statement_80 : decode cX7_statement 80 = .ok (.aload_n 0, 1) := of_row (r := (80, .aload_n 0, 1)) DX7_statement_b0 46 rfl
theorem dX7_statement_81 : decode cX7_statement 81 = .ok (.getfield 142, 3) := of_row (r := (81, .getfield 142, 3)) DX7_statement_b0 47 rfl
theorem dX7_statement_84 : decode cX7_statement 84 = .ok (.bipush 100, 2) := of_row (r := (84, .bipush 100, 2)) DX7_statement_b0 48 rfl
theorem dX7_statement_86 : decode cX7_statement 86 = .ok (.bipush 105, 2) := of_row (r := (86, .bipush 105, 2)) DX7_statement_b0 49 rfl
theorem dX7_statement_88 : decode cX7_statement 88 = .ok (.invokestatic 132, 3) := of_row (r := (88, .invokestatic 132, 3)) DX7_statement_b0 50 rfl
theorem dX7_statement_91 : decode cX7_statement 91 = .ok (.ifCond .ne 8, 3) := of_row (r := (91, .ifCond .ne 8, 3)) DX7_statement_b0 51 rfl
theorem dX7_statement_94 : decode cX7_statement 94 = .ok (.aload_n 0, 1) := of_row (r := (94, .aload_n 0, 1)) DX7_statement_b0 52 rfl
theorem dX7_statement_95 : decode cX7_statement 95 = .ok (.invokevirtual 211, 3) := of_row (r := (95, .invokevirtual 211, 3)) DX7_statement_b0 53 rfl
theorem dX7_statement_98 : decode cX7_statement 98 = .ok (.return_, 1) := of_row (r := (98, .return_, 1)) DX7_statement_b0 54 rfl
theorem dX7_statement_99 : decode cX7_statement 99 = .ok (.aload_n 0, 1) := of_row (r := (99, .aload_n 0, 1)) DX7_statement_b0 55 rfl
theorem dX7_statement_100 : decode cX7_statement 100 = .ok (.getfield 17, 3) := of_row (r := (100, .getfield 17, 3)) DX7_statement_b0 56 rfl
theorem dX7_statement_103 : decode cX7_statement 103 = .ok (.iload_n 2, 1) := of_row (r := (103, .iload_n 2, 1)) DX7_statement_b0 57 rfl
theorem dX7_statement_104 : decode cX7_statement 104 = .ok (.aload_n 0, 1) := of_row (r := (104, .aload_n 0, 1)) DX7_statement_b0 58 rfl
theorem dX7_statement_105 : decode cX7_statement 105 = .ok (.getfield 142, 3) := of_row (r := (105, .getfield 142, 3)) DX7_statement_b0 59 rfl
set_option maxRecDepth 20000 in
theorem DX7_statement_b1 : ([(108, .bipush 100, 2), (110, .isub, 1), (111, .iastore, 1), (112, .aload_n 0, 1), (113, .getfield 142, 3), (116, .bipush 105, 2), (118, .if_icmp .ne 7, 3), (121, .iconst 1, 1), (122, .goto 4, 3), (125, .iconst 0, 1), (126, .istore_n 3, 1), (127, .aload_n 0, 1), (128, .invokevirtual 214, 3), (131, .aload_n 0, 1), (132, .getfield 20, 3), (135, .iload_n 2, 1), (136, .iconst 0, 1), (137, .iastore, 1), (138, .iload_n 3, 1), (139, .ifCond .eq 53, 3), (142, .aload_n 0, 1), (143, .getfield 142, 3), (146, .bipush 50, 2), (148, .if_icmp .ne 25, 3), (151, .aload_n 0, 1), (152, .getfield 163, 3), (155, .bipush 6, 2), (157, .if_icmp .gt 16, 3), (160, .aload_n 0, 1), (161, .getfield 160, 3), (164, .iconst 1, 1), (165, .bipush 100, 2), (167, .invokestatic 132, 3), (170, .ifCond .ne 8, 3), (173, .aload_n 0, 1), (174, .invokevirtual 211, 3), (177, .return_, 1), (178, .aload_n 0, 1), (179, .getfield 20, 3), (182, .iload_n 2, 1), (183, .aload_n 0, 1), (184, .getfield 160, 3), (187, .iastore, 1), (188, .aload_n 0, 1), (189, .invokevirtual 214, 3), (192, .aload_n 0, 1), (193, .bipush 59, 2), (195, .invokevirtual 229, 3), (198, .ifCond .ne 4, 3), (201, .return_, 1), (202, .aload_n 0, 1), (203, .getfield 13, 3), (206, .iload_n 1, 1), (207, .dup2, 1), (208, .iaload, 1), (209, .iconst 1, 1), (210, .iadd, 1), (211, .iastore, 1), (212, .return_, 1)] : List (Nat × Instr × Nat)).all (fun r => decide (decode cX7_statement r.1 = .ok r.2)) = true := by decide +kernel
theorem dX7_statement_108 : decode cX7_statement 108 = .ok (.bipush 100, 2) := of_row (r := (108, .bipush 100, 2)) DX7_statement_b1 0 rfl
theorem dX7_statement_110 : decode cX7_statement 110 = .ok (.isub, 1) := of_row (r := (110, .isub, 1)) DX7_statement_b1 1 rfl
theorem dX7_statement_111 : decode cX7_statement 111 = .ok (.iastore, 1) := of_row (r := (111, .iastore, 1)) DX7_statement_b1 2 rfl
theorem dX7_statement_112 : decode cX7_statement 112 = .ok (.aload_n 0, 1) := of_row (r := (112, .aload_n 0, 1)) DX7_statement_b1 3 rfl
theorem dX7_statement_113 : decode cX7_statement 113 = .ok (.getfield 142, 3) := of_row (r := (113, .getfield 142, 3)) DX7_statement_b1 4 rfl
theorem dX7_statement_116 : decode cX7_statement 116 = .ok (.bipush 105, 2) := of_row (r := (116, .bipush 105, 2)) DX7_statement_b1 5 rfl
theorem dX7_statement_118 : decode cX7_statement 118 = .ok (.if_icmp .ne 7, 3) := of_row (r := (118, .if_icmp .ne 7, 3)) DX7_statement_b1 6 rfl
theorem dX7_statement_121 : decode cX7_statement 121 = .ok (.iconst 1, 1) := of_row (r := (121, .iconst 1, 1)) DX7_statement_b1 7 rfl
theorem dX7_statement_122 : decode cX7_statement 122 = .ok (.goto 4, 3) := of_row (r := (122, .goto 4, 3)) DX7_statement_b1 8 rfl
theorem dX7_statement_125 : decode cX7_statement 125 = .ok (.iconst 0, 1) := of_row (r := (125, .iconst 0, 1)) DX7_statement_b1 9 rfl
theorem dX7_statement_126 : decode cX7_statement 126 = .ok (.istore_n 3, 1) := of_row (r := (126, .istore_n 3, 1)) DX7_statement_b1 10 rfl
theorem dX7_statement_127 : decode cX7_statement 127 = .ok (.aload_n 0, 1) := of_row (r := (127, .aload_n 0, 1)) DX7_statement_b1 11 rfl
theorem dX7_statement_128 : decode cX7_statement 128 = .ok (.invokevirtual 214, 3) := of_row (r := (128, .invokevirtual 214, 3)) DX7_statement_b1 12 rfl
theorem dX7_statement_131 : decode cX7_statement 131 = .ok (.aload_n 0, 1) := of_row (r := (131, .aload_n 0, 1)) DX7_statement_b1 13 rfl
theorem dX7_statement_132 : decode cX7_statement 132 = .ok (.getfield 20, 3) := of_row (r := (132, .getfield 20, 3)) DX7_statement_b1 14 rfl
theorem dX7_statement_135 : decode cX7_statement 135 = .ok (.iload_n 2, 1) := of_row (r := (135, .iload_n 2, 1)) DX7_statement_b1 15 rfl
theorem dX7_statement_136 : decode cX7_statement 136 = .ok (.iconst 0, 1) := of_row (r := (136, .iconst 0, 1)) DX7_statement_b1 16 rfl
theorem dX7_statement_137 : decode cX7_statement 137 = .ok (.iastore, 1) := of_row (r := (137, .iastore, 1)) DX7_statement_b1 17 rfl
theorem dX7_statement_138 : decode cX7_statement 138 = .ok (.iload_n 3, 1) := of_row (r := (138, .iload_n 3, 1)) DX7_statement_b1 18 rfl
theorem dX7_statement_139 : decode cX7_statement 139 = .ok (.ifCond .eq 53, 3) := of_row (r := (139, .ifCond .eq 53, 3)) DX7_statement_b1 19 rfl
theorem dX7_statement_142 : decode cX7_statement 142 = .ok (.aload_n 0, 1) := of_row (r := (142, .aload_n 0, 1)) DX7_statement_b1 20 rfl
theorem dX7_statement_143 : decode cX7_statement 143 = .ok (.getfield 142, 3) := of_row (r := (143, .getfield 142, 3)) DX7_statement_b1 21 rfl
theorem dX7_statement_146 : decode cX7_statement 146 = .ok (.bipush 50, 2) := of_row (r := (146, .bipush 50, 2)) DX7_statement_b1 22 rfl
theorem dX7_statement_148 : decode cX7_statement 148 = .ok (.if_icmp .ne 25, 3) := of_row (r := (148, .if_icmp .ne 25, 3)) DX7_statement_b1 23 rfl
theorem dX7_statement_151 : decode cX7_statement 151 = .ok (.aload_n 0, 1) := of_row (r := (151, .aload_n 0, 1)) DX7_statement_b1 24 rfl
theorem dX7_statement_152 : decode cX7_statement 152 = .ok (.getfield 163, 3) := of_row (r := (152, .getfield 163, 3)) DX7_statement_b1 25 rfl
theorem dX7_statement_155 : decode cX7_statement 155 = .ok (.bipush 6, 2) := of_row (r := (155, .bipush 6, 2)) DX7_statement_b1 26 rfl
theorem dX7_statement_157 : decode cX7_statement 157 = .ok (.if_icmp .gt 16, 3) := of_row (r := (157, .if_icmp .gt 16, 3)) DX7_statement_b1 27 rfl
theorem dX7_statement_160 : decode cX7_statement 160 = .ok (.aload_n 0, 1) := of_row (r := (160, .aload_n 0, 1)) DX7_statement_b1 28 rfl
theorem dX7_statement_161 : decode cX7_statement 161 = .ok (.getfield 160, 3) := of_row (r := (161, .getfield 160, 3)) DX7_statement_b1 29 rfl
theorem dX7_statement_164 : decode cX7_statement 164 = .ok (.iconst 1, 1) := of_row (r := (164, .iconst 1, 1)) DX7_statement_b1 30 rfl
theorem dX7_statement_165 : decode cX7_statement 165 = .ok (.bipush 100, 2) := of_row (r := (165, .bipush 100, 2)) DX7_statement_b1 31 rfl
theorem dX7_statement_167 : decode cX7_statement 167 = .ok (.invokestatic 132, 3) := of_row (r := (167, .invokestatic 132, 3)) DX7_statement_b1 32 rfl
theorem dX7_statement_170 : decode cX7_statement 170 = .ok (.ifCond .ne 8, 3) := of_row (r := (170, .ifCond .ne 8, 3)) DX7_statement_b1 33 rfl
theorem dX7_statement_173 : decode cX7_statement 173 = .ok (.aload_n 0, 1) := of_row (r := (173, .aload_n 0, 1)) DX7_statement_b1 34 rfl
theorem dX7_statement_174 : decode cX7_statement 174 = .ok (.invokevirtual 211, 3) := of_row (r := (174, .invokevirtual 211, 3)) DX7_statement_b1 35 rfl
theorem dX7_statement_177 : decode cX7_statement 177 = .ok (.return_, 1) := of_row (r := (177, .return_, 1)) DX7_statement_b1 36 rfl
theorem dX7_statement_178 : decode cX7_statement 178 = .ok (.aload_n 0, 1) := of_row (r := (178, .aload_n 0, 1)) DX7_statement_b1 37 rfl
theorem dX7_statement_179 : decode cX7_statement 179 = .ok (.getfield 20, 3) := of_row (r := (179, .getfield 20, 3)) DX7_statement_b1 38 rfl
theorem dX7_statement_182 : decode cX7_statement 182 = .ok (.iload_n 2, 1) := of_row (r := (182, .iload_n 2, 1)) DX7_statement_b1 39 rfl
theorem dX7_statement_183 : decode cX7_statement 183 = .ok (.aload_n 0, 1) := of_row (r := (183, .aload_n 0, 1)) DX7_statement_b1 40 rfl
theorem dX7_statement_184 : decode cX7_statement 184 = .ok (.getfield 160, 3) := of_row (r := (184, .getfield 160, 3)) DX7_statement_b1 41 rfl
theorem dX7_statement_187 : decode cX7_statement 187 = .ok (.iastore, 1) := of_row (r := (187, .iastore, 1)) DX7_statement_b1 42 rfl
theorem dX7_statement_188 : decode cX7_statement 188 = .ok (.aload_n 0, 1) := of_row (r := (188, .aload_n 0, 1)) DX7_statement_b1 43 rfl
theorem dX7_statement_189 : decode cX7_statement 189 = .ok (.invokevirtual 214, 3) := of_row (r := (189, .invokevirtual 214, 3)) DX7_statement_b1 44 rfl
theorem dX7_statement_192 : decode cX7_statement 192 = .ok (.aload_n 0, 1) := of_row (r := (192, .aload_n 0, 1)) DX7_statement_b1 45 rfl
theorem dX7_statement_193 : decode cX7_statement 193 = .ok (.bipush 59, 2) := of_row (r := (193, .bipush 59, 2)) DX7_statement_b1 46 rfl
theorem dX7_statement_195 : decode cX7_statement 195 = .ok (.invokevirtual 229, 3) := of_row (r := (195, .invokevirtual 229, 3)) DX7_statement_b1 47 rfl
theorem dX7_statement_198 : decode cX7_statement 198 = .ok (.ifCond .ne 4, 3) := of_row (r := (198, .ifCond .ne 4, 3)) DX7_statement_b1 48 rfl
theorem dX7_statement_201 : decode cX7_statement 201 = .ok (.return_, 1) := of_row (r := (201, .return_, 1)) DX7_statement_b1 49 rfl
theorem dX7_statement_202 : decode cX7_statement 202 = .ok (.aload_n 0, 1) := of_row (r := (202, .aload_n 0, 1)) DX7_statement_b1 50 rfl
theorem dX7_statement_203 : decode cX7_statement 203 = .ok (.getfield 13, 3) := of_row (r := (203, .getfield 13, 3)) DX7_statement_b1 51 rfl
theorem dX7_statement_206 : decode cX7_statement 206 = .ok (.iload_n 1, 1) := of_row (r := (206, .iload_n 1, 1)) DX7_statement_b1 52 rfl
theorem dX7_statement_207 : decode cX7_statement 207 = .ok (.dup2, 1) := of_row (r := (207, .dup2, 1)) DX7_statement_b1 53 rfl
theorem dX7_statement_208 : decode cX7_statement 208 = .ok (.iaload, 1) := of_row (r := (208, .iaload, 1)) DX7_statement_b1 54 rfl
theorem dX7_statement_209 : decode cX7_statement 209 = .ok (.iconst 1, 1) := of_row (r := (209, .iconst 1, 1)) DX7_statement_b1 55 rfl
theorem dX7_statement_210 : decode cX7_statement 210 = .ok (.iadd, 1) := of_row (r := (210, .iadd, 1)) DX7_statement_b1 56 rfl
theorem dX7_statement_211 : decode cX7_statement 211 = .ok (.iastore, 1) := of_row (r := (211, .iastore, 1)) DX7_statement_b1 57 rfl
theorem dX7_statement_212 : decode cX7_statement 212 = .ok (.return_, 1) := of_row (r := (212, .return_, 1)) DX7_statement_b1 58 rfl
set_option maxRecDepth 20000 in
theorem DX7_isOpen_b0 : ([(0, .aload_n 0, 1), (1, .getfield 232, 3), (4, .ifCond .le 22, 3), (7, .aload_n 0, 1), (8, .getfield 35, 3), (11, .aload_n 0, 1), (12, .getfield 232, 3), (15, .iconst 1, 1), (16, .isub, 1), (17, .iaload, 1), (18, .iload_n 1, 1), (19, .if_icmp .ne 7, 3), (22, .iconst 1, 1), (23, .goto 4, 3), (26, .iconst 0, 1), (27, .ireturn, 1)] : List (Nat × Instr × Nat)).all (fun r => decide (decode cX7_isOpen r.1 = .ok r.2)) = true := by decide +kernel
theorem dX7_isOpen_0 : decode cX7_isOpen 0 = .ok (.aload_n 0, 1) := of_row (r := (0, .aload_n 0, 1)) DX7_isOpen_b0 0 rfl
theorem dX7_isOpen_1 : decode cX7_isOpen 1 = .ok (.getfield 232, 3) := of_row (r := (1, .getfield 232, 3)) DX7_isOpen_b0 1 rfl
theorem dX7_isOpen_4 : decode cX7_isOpen 4 = .ok (.ifCond .le 22, 3) := of_row (r := (4, .ifCond .le 22, 3)) DX7_isOpen_b0 2 rfl
theorem dX7_isOpen_7 : decode cX7_isOpen 7 = .ok (.aload_n 0, 1) := of_row (r := (7, .aload_n 0, 1)) DX7_isOpen_b0 3 rfl
theorem dX7_isOpen_8 : decode cX7_isOpen 8 = .ok (.getfield 35, 3) := of_row (r := (8, .getfield 35, 3)) DX7_isOpen_b0 4 rfl
theorem dX7_isOpen_11 : decode cX7_isOpen 11 = .ok (.aload_n 0, 1) := of_row (r := (11, .aload_n 0, 1)) DX7_isOpen_b0 5 rfl
theorem dX7_isOpen_12 : decode cX7_isOpen 12 = .ok (.getfield 232, 3) := of_row (r := (12, .getfield 232, 3)) DX7_isOpen_b0 6 rfl
theorem dX7_isOpen_15 : decode cX7_isOpen 15 = .ok (.iconst 1, 1) := of_row (r := (15, .iconst 1, 1)) DX7_isOpen_b0 7 rfl
theorem dX7_isOpen_16 : decode cX7_isOpen 16 = .ok (.isub, 1) := of_row (r := (16, .isub, 1)) DX7_isOpen_b0 8 rfl
theorem dX7_isOpen_17 : decode cX7_isOpen 17 = .ok (.iaload, 1) := of_row (r := (17, .iaload, 1)) DX7_isOpen_b0 9 rfl
theorem dX7_isOpen_18 : decode cX7_isOpen 18 = .ok (.iload_n 1, 1) := of_row (r := (18, .iload_n 1, 1)) DX7_isOpen_b0 10 rfl
theorem dX7_isOpen_19 : decode cX7_isOpen 19 = .ok (.if_icmp .ne 7, 3) := of_row (r := (19, .if_icmp .ne 7, 3)) DX7_isOpen_b0 11 rfl
theorem dX7_isOpen_22 : decode cX7_isOpen 22 = .ok (.iconst 1, 1) := of_row (r := (22, .iconst 1, 1)) DX7_isOpen_b0 12 rfl
theorem dX7_isOpen_23 : decode cX7_isOpen 23 = .ok (.goto 4, 3) := of_row (r := (23, .goto 4, 3)) DX7_isOpen_b0 13 rfl
theorem dX7_isOpen_26 : decode cX7_isOpen 26 = .ok (.iconst 0, 1) := of_row (r := (26, .iconst 0, 1)) DX7_isOpen_b0 14 rfl
theorem dX7_isOpen_27 : decode cX7_isOpen 27 = .ok (.ireturn, 1) := of_row (r := (27, .ireturn, 1)) DX7_isOpen_b0 15 rfl
set_option maxRecDepth 20000 in
theorem DX7_close_b0 : ([(0, .aload_n 0, 1), (1, .dup, 1), (2, .getfield 232, 3), (5, .iconst 1, 1), (6, .isub, 1), (7, .putfield 232, 3), (10, .aload_n 0, 1), (11, .aload_n 0, 1), (12, .getfield 35, 3), (15, .aload_n 0, 1), (16, .getfield 232, 3), (19, .iaload, 1), (20, .iconst 0, 1), (21, .invokevirtual 235, 3), (24, .return_, 1)] : List (Nat × Instr × Nat)).all (fun r => decide (decode cX7_close r.1 = .ok r.2)) = true := by decide +kernel
theorem dX7_close_0 : decode cX7_close 0 = .ok (.aload_n 0, 1) := of_row (r := (0, .aload_n 0, 1)) DX7_close_b0 0 rfl
theorem dX7_close_1 : decode cX7_close 1 = .ok (.dup, 1) := of_row (r := (1, .dup, 1)) DX7_close_b0 1 rfl
theorem dX7_close_2 : decode cX7_close 2 = .ok (.getfield 232, 3) := of_row (r := (2, .getfield 232, 3)) DX7_close_b0 2 rfl
theorem dX7_close_5 : decode cX7_close 5 = .ok (.iconst 1, 1) := of_row (r := (5, .iconst 1, 1)) DX7_close_b0 3 rfl
theorem dX7_close_6 : decode cX7_close 6 = .ok (.isub, 1) := of_row (r := (6, .isub, 1)) DX7_close_b0 4 rfl
theorem dX7_close_7 : decode cX7_close 7 = .ok (.putfield 232, 3) := of_row (r := (7, .putfield 232, 3)) DX7_close_b0 5 rfl
theorem dX7_close_10 : decode cX7_close 10 = .ok (.aload_n 0, 1) := of_row (r := (10, .aload_n 0, 1)) DX7_close_b0 6 rfl
theorem dX7_close_11 : decode cX7_close 11 = .ok (.aload_n 0, 1) := of_row (r := (11, .aload_n 0, 1)) DX7_close_b0 7 rfl
theorem dX7_close_12 : decode cX7_close 12 = .ok (.getfield 35, 3) := of_row (r := (12, .getfield 35, 3)) DX7_close_b0 8 rfl
theorem dX7_close_15 : decode cX7_close 15 = .ok (.aload_n 0, 1) := of_row (r := (15, .aload_n 0, 1)) DX7_close_b0 9 rfl
theorem dX7_close_16 : decode cX7_close 16 = .ok (.getfield 232, 3) := of_row (r := (16, .getfield 232, 3)) DX7_close_b0 10 rfl
theorem dX7_close_19 : decode cX7_close 19 = .ok (.iaload, 1) := of_row (r := (19, .iaload, 1)) DX7_close_b0 11 rfl
theorem dX7_close_20 : decode cX7_close 20 = .ok (.iconst 0, 1) := of_row (r := (20, .iconst 0, 1)) DX7_close_b0 12 rfl
theorem dX7_close_21 : decode cX7_close 21 = .ok (.invokevirtual 235, 3) := of_row (r := (21, .invokevirtual 235, 3)) DX7_close_b0 13 rfl
theorem dX7_close_24 : decode cX7_close 24 = .ok (.return_, 1) := of_row (r := (24, .return_, 1)) DX7_close_b0 14 rfl
set_option maxRecDepth 20000 in
theorem DX7_test_b0 : ([(0, .aload_n 0, 1), (1, .iconst 0, 1), (2, .putfield 232, 3), (5, .aload_n 0, 1), (6, .iconst 0, 1), (7, .putfield 239, 3), (10, .iconst 1, 1), (11, .istore_n 1, 1), (12, .iload_n 1, 1), (13, .ifCond .eq 112, 3), (16, .aload_n 0, 1), (17, .getfield 208, 3), (20, .ifCond .ge 105, 3), (23, .aload_n 0, 1), (24, .getfield 208, 3), (27, .ifCond .ge 86, 3), (30, .aload_n 0, 1), (31, .getfield 142, 3), (34, .bipush 110, 2), (36, .if_icmp .eq 12, 3), (39, .aload_n 0, 1), (40, .getfield 142, 3), (43, .bipush 40, 2), (45, .if_icmp .ne 68, 3), (48, .aload_n 0, 1), (49, .getfield 239, 3), (52, .bipush 15, 2), (54, .if_icmp .ne 8, 3), (57, .aload_n 0, 1), (58, .invokevirtual 211, 3), (61, .return_, 1), (62, .aload_n 0, 1), (63, .dup, 1), (64, .getfield 239, 3), (67, .iconst 1, 1), (68, .iadd, 1), (69, .putfield 239, 3), (72, .aload_n 0, 1), (73, .getfield 35, 3), (76, .aload_n 0, 1), (77, .getfield 232, 3), (80, .aload_n 0, 1), (81, .getfield 142, 3), (84, .bipush 110, 2), (86, .if_icmp .ne 7, 3), (89, .iconst 2, 1), (90, .goto 5, 3), (93, .bipush 40, 2), (95, .iastore, 1), (96, .aload_n 0, 1), (97, .dup, 1), (98, .getfield 232, 3), (101, .iconst 1, 1), (102, .iadd, 1), (103, .putfield 232, 3), (106, .aload_n 0, 1), (107, .invokevirtual 214, 3), (110, .goto (-87), 3), (113, .aload_n 0, 1), (114, .invokevirtual 242, 3)] : List (Nat × Instr × Nat)).all (fun r => decide (decode cX7_test r.1 = .ok r.2)) = true := by decide +kernel
theorem dX7_test_0 : decode cX7_test 0 = .ok (.aload_n 0, 1) := of_row (r := (0, .aload_n 0, 1)) DX7_test_b0 0 rfl
theorem dX7_test_1 : decode cX7_test 1 = .ok (.iconst 0, 1) := of_row (r := (1, .iconst 0, 1)) DX7_test_b0 1 rfl
theorem dX7_test_2 : decode cX7_test 2 = .ok (.putfield 232, 3) := of_row (r := (2, .putfield 232, 3)) DX7_test_b0 2 rfl
theorem dX7_test_5 : decode cX7_test 5 = .ok (.aload_n 0, 1) := of_row (r := (5, .aload_n 0, 1)) DX7_test_b0 3 rfl
theorem dX7_test_6 : decode cX7_test 6 = .ok (.iconst 0, 1) := of_row (r := (6, .iconst 0, 1)) DX7_test_b0 4 rfl
theorem dX7_test_7 : decode cX7_test 7 = .ok (.putfield 239, 3) := of_row (r := (7, .putfield 239, 3)) DX7_test_b0 5 rfl
theorem dX7_test_10 : decode cX7_test 10 = .ok (.iconst 1, 1) := of_row (r := (10, .iconst 1, 1)) DX7_test_b0 6 rfl
theorem dX7_test_11 : decode cX7_test 11 = .ok (.istore_n 1, 1) := of_row (r := (11, .istore_n 1, 1)) DX7_test_b0 7 rfl
theorem dX7_test_12 : decode cX7_test 12 = .ok (.iload_n 1, 1) := of_row (r := (12, .iload_n 1, 1)) DX7_test_b0 8 rfl
theorem dX7_test_13 : decode cX7_test 13 = .ok (.ifCond .eq 112, 3) := of_row (r := (13, .ifCond .eq 112, 3)) DX7_test_b0 9 rfl
theorem dX7_test_16 : decode cX7_test 16 = .ok (.aload_n 0, 1) := of_row (r := (16, .aload_n 0, 1)) DX7_test_b0 10 rfl
theorem dX7_test_17 : decode cX7_test 17 = .ok (.getfield 208, 3) := of_row (r := (17, .getfield 208, 3)) DX7_test_b0 11 rfl
theorem dX7_test_20 : decode cX7_test 20 = .ok (.ifCond .ge 105, 3) := of_row (r := (20, .ifCond .ge 105, 3)) DX7_test_b0 12 rfl
theorem dX7_test_23 : decode cX7_test 23 = .ok (.aload_n 0, 1) := of_row (r := (23, .aload_n 0, 1)) DX7_test_b0 13 rfl
theorem dX7_test_24 : decode cX7_test 24 = .ok (.getfield 208, 3) := of_row (r := (24, .getfield 208, 3)) DX7_test_b0 14 rfl
theorem dX7_test_27 : decode cX7_test 27 = .ok (.ifCond .ge 86, 3) := of_row (r := (27, .ifCond .ge 86, 3)) DX7_test_b0 15 rfl
theorem dX7_test_30 : decode cX7_test 30 = .ok (.aload_n 0, 1) := of_row (r := (30, .aload_n 0, 1)) DX7_test_b0 16 rfl
theorem dX7_test_31 : decode cX7_test 31 = .ok (.getfield 142, 3) := of_row (r := (31, .getfield 142, 3)) DX7_test_b0 17 rfl
theorem dX7_test_34 : decode cX7_test 34 = .ok (.bipush 110, 2) := of_row (r := (34, .bipush 110, 2)) DX7_test_b0 18 rfl
theorem dX7_test_36 : decode cX7_test 36 = .ok (.if_icmp .eq 12, 3) := of_row (r := (36, .if_icmp .eq 12, 3)) DX7_test_b0 19 rfl
theorem dX7_test_39 : decode cX7_test 39 = .ok (.aload_n 0, 1) := of_row (r := (39, .aload_n 0, 1)) DX7_test_b0 20 rfl
theorem dX7_test_40 : decode cX7_test 40 = .ok (.getfield 142, 3) := of_row (r := (40, .getfield 142, 3)) DX7_test_b0 21 rfl
theorem dX7_test_43 : decode cX7_test 43 = .ok (.bipush 40, 2) := of_row (r := (43, .bipush 40, 2)) DX7_test_b0 22 rfl
theorem dX7_test_45 : decode cX7_test 45 = .ok (.if_icmp .ne 68, 3) := of_row (r := (45, .if_icmp .ne 68, 3)) DX7_test_b0 23 rfl
theorem dX7_test_48 : decode cX7_test 48 = .ok (.aload_n 0, 1) := of_row (r := (48, .aload_n 0, 1)) DX7_test_b0 24 rfl
theorem dX7_test_49 : decode cX7_test 49 = .ok (.getfield 239, 3) := of_row (r := (49, .getfield 239, 3)) DX7_test_b0 25 rfl
theorem dX7_test_52 : decode cX7_test 52 = .ok (.bipush 15, 2) := of_row (r := (52, .bipush 15, 2)) DX7_test_b0 26 rfl
theorem dX7_test_54 : decode cX7_test 54 = .ok (.if_icmp .ne 8, 3) := of_row (r := (54, .if_icmp .ne 8, 3)) DX7_test_b0 27 rfl
theorem dX7_test_57 : decode cX7_test 57 = .ok (.aload_n 0, 1) := of_row (r := (57, .aload_n 0, 1)) DX7_test_b0 28 rfl
theorem dX7_test_58 : decode cX7_test 58 = .ok (.invokevirtual 211, 3) := of_row (r := (58, .invokevirtual 211, 3)) DX7_test_b0 29 rfl
theorem dX7_test_61 : decode cX7_test 61 = .ok (.return_, 1) := of_row (r := (61, .return_, 1)) DX7_test_b0 30 rfl
theorem dX7_test_62 : decode cX7_test 62 = .ok (.aload_n 0, 1) := of_row (r := (62, .aload_n 0, 1)) DX7_test_b0 31 rfl
theorem dX7_test_63 : decode cX7_test 63 = .ok (.dup, 1) := of_row (r := (63, .dup, 1)) DX7_test_b0 32 rfl
theorem dX7_test_64 : decode cX7_test 64 = .ok (.getfield 239, 3) := of_row (r := (64, .getfield 239, 3)) DX7_test_b0 33 rfl
theorem dX7_test_67 : decode cX7_test 67 = .ok (.iconst 1, 1) := of_row (r := (67, .iconst 1, 1)) DX7_test_b0 34 rfl
theorem dX7_test_68 : decode cX7_test 68 = .ok (.iadd, 1) := of_row (r := (68, .iadd, 1)) DX7_test_b0 35 rfl
theorem dX7_test_69 : decode cX7_test 69 = .ok (.putfield 239, 3) := of_row (r := (69, .putfield 239, 3)) DX7_test_b0 36 rfl
theorem dX7_test_72 : decode cX7_test 72 = .ok (.aload_n 0, 1) := of_row (r := (72, .aload_n 0, 1)) DX7_test_b0 37 rfl
theorem dX7_test_73 : decode cX7_test 73 = .ok (.getfield 35, 3) := of_row (r := (73, .getfield 35, 3)) DX7_test_b0 38 rfl
theorem dX7_test_76 : decode cX7_test 76 = .ok (.aload_n 0, 1) := of_row (r := (76, .aload_n 0, 1)) DX7_test_b0 39 rfl
theorem dX7_test_77 : decode cX7_test 77 = .ok (.getfield 232, 3) := of_row (r := (77, .getfield 232, 3)) DX7_test_b0 40 rfl
theorem dX7_test_80 : decode cX7_test 80 = .ok (.aload_n 0, 1) := of_row (r := (80, .aload_n 0, 1)) DX7_test_b0 41 rfl
theorem dX7_test_81 : decode cX7_test 81 = .ok (.getfield 142, 3) := of_row (r := (81, .getfield 142, 3)) DX7_test_b0 42 rfl
theorem dX7_test_84 : decode cX7_test 84 = .ok (.bipush 110, 2) := of_row (r := (84, .bipush 110, 2)) DX7_test_b0 43 rfl
theorem dX7_test_86 : decode cX7_test 86 = .ok (.if_icmp .ne 7, 3) := of_row (r := (86, .if_icmp .ne 7, 3)) DX7_test_b0 44 rfl
theorem dX7_test_89 : decode cX7_test 89 = .ok (.iconst 2, 1) := of_row (r := (89, .iconst 2, 1)) DX7_test_b0 45 rfl
theorem dX7_test_90 : decode cX7_test 90 = .ok (.goto 5, 3) := of_row (r := (90, .goto 5, 3)) DX7_test_b0 46 rfl
theorem dX7_test_93 : decode cX7_test 93 = .ok (.bipush 40, 2) := of_row (r := (93, .bipush 40, 2)) DX7_test_b0 47 rfl
theorem dX7_test_95 : decode cX7_test 95 = .ok (.iastore, 1) := of_row (r := (95, .iastore, 1)) DX7_test_b0 48 rfl
theorem dX7_test_96 : decode cX7_test 96 = .ok (.aload_n 0, 1) := of_row (r := (96, .aload_n 0, 1)) DX7_test_b0 49 rfl
theorem dX7_test_97 : decode cX7_test 97 = .ok (.dup, 1) := of_row (r := (97, .dup, 1)) DX7_test_b0 50 rfl
theorem dX7_test_98 : decode cX7_test 98 = .ok (.getfield 232, 3) := of_row (r := (98, .getfield 232, 3)) DX7_test_b0 51 rfl
theorem dX7_test_101 : decode cX7_test 101 = .ok (.iconst 1, 1) := of_row (r := (101, .iconst 1, 1)) DX7_test_b0 52 rfl
theorem dX7_test_102 : decode cX7_test 102 = .ok (.iadd, 1) := of_row (r := (102, .iadd, 1)) DX7_test_b0 53 rfl
theorem dX7_test_103 : decode cX7_test 103 = .ok (.putfield 232, 3) := of_row (r := (103, .putfield 232, 3)) DX7_test_b0 54 rfl
theorem dX7_test_106 : decode cX7_test 106 = .ok (.aload_n 0, 1) := of_row (r := (106, .aload_n 0, 1)) DX7_test_b0 55 rfl
theorem dX7_test_107 : decode cX7_test 107 = .ok (.invokevirtual 214, 3) := of_row (r := (107, .invokevirtual 214, 3)) DX7_test_b0 56 rfl
theorem dX7_test_110 : decode cX7_test 110 = .ok (.goto (-87), 3) := of_row (r := (110, .goto (-87), 3)) DX7_test_b0 57 rfl
theorem dX7_test_113 : decode cX7_test 113 = .ok (.aload_n 0, 1) := of_row (r := (113, .aload_n 0, 1)) DX7_test_b0 58 rfl
theorem dX7_test_114 : decode cX7_test 114 = .ok (.invokevirtual 242, 3) := of_row (r := (114, .invokevirtual 242, 3)) DX7_test_b0 59 rfl
set_option maxRecDepth 20000 in
theorem DX7_test_b1 : ([(117, .aload_n 0, 1), (118, .invokevirtual 245, 3), (121, .istore_n 1, 1), (122, .goto (-110), 3), (125, .return_, 1)] : List (Nat × Instr × Nat)).all (fun r => decide (decode cX7_test r.1 = .ok r.2)) = true := by decide +kernel
theorem dX7_test_117 : decode cX7_test 117 = .ok (.aload_n 0, 1) := of_row (r := (117, .aload_n 0, 1)) DX7_test_b1 0 rfl
theorem dX7_test_118 : decode cX7_test 118 = .ok (.invokevirtual 245, 3) := of_row (r := (118, .invokevirtual 245, 3)) DX7_test_b1 1 rfl
theorem dX7_test_121 : decode cX7_test 121 = .ok (.istore_n 1, 1) := of_row (r := (121, .istore_n 1, 1)) DX7_test_b1 2 rfl
theorem dX7_test_122 : decode cX7_test 122 = .ok (.goto (-110), 3) := of_row (r := (122, .goto (-110), 3)) DX7_test_b1 3 rfl
theorem dX7_test_125 : decode cX7_test 125 = .ok (.return_, 1) := of_row (r := (125, .return_, 1)) DX7_test_b1 4 rfl
set_option maxRecDepth 20000 in
theorem DX7_goesOn_b0 : ([(0, .iconst 1, 1), (1, .istore_n 1, 1), (2, .iload_n 1, 1), (3, .ifCond .eq 184, 3), (6, .aload_n 0, 1), (7, .getfield 208, 3), (10, .ifCond .ge 177, 3), (13, .aload_n 0, 1), (14, .iconst 2, 1), (15, .invokevirtual 249, 3), (18, .ifCond .eq 20, 3), (21, .aload_n 0, 1), (22, .dup, 1), (23, .getfield 239, 3), (26, .iconst 1, 1), (27, .isub, 1), (28, .putfield 239, 3), (31, .aload_n 0, 1), (32, .invokevirtual 252, 3), (35, .goto (-22), 3), (38, .aload_n 0, 1), (39, .iconst 3, 1), (40, .invokevirtual 249, 3), (43, .ifCond .eq 7, 3), (46, .aload_n 0, 1), (47, .invokevirtual 252, 3), (50, .aload_n 0, 1), (51, .getfield 142, 3), (54, .bipush 109, 2), (56, .if_icmp .ne 29, 3), (59, .aload_n 0, 1), (60, .getfield 35, 3), (63, .aload_n 0, 1), (64, .getfield 232, 3), (67, .iconst 3, 1), (68, .iastore, 1), (69, .aload_n 0, 1), (70, .dup, 1), (71, .getfield 232, 3), (74, .iconst 1, 1), (75, .iadd, 1), (76, .putfield 232, 3), (79, .aload_n 0, 1), (80, .invokevirtual 214, 3), (83, .iconst 1, 1), (84, .ireturn, 1), (85, .aload_n 0, 1), (86, .iconst 4, 1), (87, .invokevirtual 249, 3), (90, .ifCond .eq 7, 3), (93, .aload_n 0, 1), (94, .invokevirtual 252, 3), (97, .aload_n 0, 1), (98, .getfield 142, 3), (101, .bipush 108, 2), (103, .if_icmp .ne 29, 3), (106, .aload_n 0, 1), (107, .getfield 35, 3), (110, .aload_n 0, 1), (111, .getfield 232, 3)] : List (Nat × Instr × Nat)).all (fun r => decide (decode cX7_goesOn r.1 = .ok r.2)) = true := by decide +kernel
theorem dX7_goesOn_0 : decode cX7_goesOn 0 = .ok (.iconst 1, 1) := of_row (r := (0, .iconst 1, 1)) DX7_goesOn_b0 0 rfl
theorem dX7_goesOn_1 : decode cX7_goesOn 1 = .ok (.istore_n 1, 1) := of_row (r := (1, .istore_n 1, 1)) DX7_goesOn_b0 1 rfl
theorem dX7_goesOn_2 : decode cX7_goesOn 2 = .ok (.iload_n 1, 1) := of_row (r := (2, .iload_n 1, 1)) DX7_goesOn_b0 2 rfl
theorem dX7_goesOn_3 : decode cX7_goesOn 3 = .ok (.ifCond .eq 184, 3) := of_row (r := (3, .ifCond .eq 184, 3)) DX7_goesOn_b0 3 rfl
theorem dX7_goesOn_6 : decode cX7_goesOn 6 = .ok (.aload_n 0, 1) := of_row (r := (6, .aload_n 0, 1)) DX7_goesOn_b0 4 rfl
theorem dX7_goesOn_7 : decode cX7_goesOn 7 = .ok (.getfield 208, 3) := of_row (r := (7, .getfield 208, 3)) DX7_goesOn_b0 5 rfl
theorem dX7_goesOn_10 : decode cX7_goesOn 10 = .ok (.ifCond .ge 177, 3) := of_row (r := (10, .ifCond .ge 177, 3)) DX7_goesOn_b0 6 rfl
theorem dX7_goesOn_13 : decode cX7_goesOn 13 = .ok (.aload_n 0, 1) := of_row (r := (13, .aload_n 0, 1)) DX7_goesOn_b0 7 rfl
theorem dX7_goesOn_14 : decode cX7_goesOn 14 = .ok (.iconst 2, 1) := of_row (r := (14, .iconst 2, 1)) DX7_goesOn_b0 8 rfl
theorem dX7_goesOn_15 : decode cX7_goesOn 15 = .ok (.invokevirtual 249, 3) := of_row (r := (15, .invokevirtual 249, 3)) DX7_goesOn_b0 9 rfl
theorem dX7_goesOn_18 : decode cX7_goesOn 18 = .ok (.ifCond .eq 20, 3) := of_row (r := (18, .ifCond .eq 20, 3)) DX7_goesOn_b0 10 rfl
theorem dX7_goesOn_21 : decode cX7_goesOn 21 = .ok (.aload_n 0, 1) := of_row (r := (21, .aload_n 0, 1)) DX7_goesOn_b0 11 rfl
theorem dX7_goesOn_22 : decode cX7_goesOn 22 = .ok (.dup, 1) := of_row (r := (22, .dup, 1)) DX7_goesOn_b0 12 rfl
theorem dX7_goesOn_23 : decode cX7_goesOn 23 = .ok (.getfield 239, 3) := of_row (r := (23, .getfield 239, 3)) DX7_goesOn_b0 13 rfl
theorem dX7_goesOn_26 : decode cX7_goesOn 26 = .ok (.iconst 1, 1) := of_row (r := (26, .iconst 1, 1)) DX7_goesOn_b0 14 rfl
theorem dX7_goesOn_27 : decode cX7_goesOn 27 = .ok (.isub, 1) := of_row (r := (27, .isub, 1)) DX7_goesOn_b0 15 rfl
theorem dX7_goesOn_28 : decode cX7_goesOn 28 = .ok (.putfield 239, 3) := of_row (r := (28, .putfield 239, 3)) DX7_goesOn_b0 16 rfl
theorem dX7_goesOn_31 : decode cX7_goesOn 31 = .ok (.aload_n 0, 1) := of_row (r := (31, .aload_n 0, 1)) DX7_goesOn_b0 17 rfl
theorem dX7_goesOn_32 : decode cX7_goesOn 32 = .ok (.invokevirtual 252, 3) := of_row (r := (32, .invokevirtual 252, 3)) DX7_goesOn_b0 18 rfl
theorem dX7_goesOn_35 : decode cX7_goesOn 35 = .ok (.goto (-22), 3) := of_row (r := (35, .goto (-22), 3)) DX7_goesOn_b0 19 rfl
theorem dX7_goesOn_38 : decode cX7_goesOn 38 = .ok (.aload_n 0, 1) := of_row (r := (38, .aload_n 0, 1)) DX7_goesOn_b0 20 rfl
theorem dX7_goesOn_39 : decode cX7_goesOn 39 = .ok (.iconst 3, 1) := of_row (r := (39, .iconst 3, 1)) DX7_goesOn_b0 21 rfl
theorem dX7_goesOn_40 : decode cX7_goesOn 40 = .ok (.invokevirtual 249, 3) := of_row (r := (40, .invokevirtual 249, 3)) DX7_goesOn_b0 22 rfl
theorem dX7_goesOn_43 : decode cX7_goesOn 43 = .ok (.ifCond .eq 7, 3) := of_row (r := (43, .ifCond .eq 7, 3)) DX7_goesOn_b0 23 rfl
theorem dX7_goesOn_46 : decode cX7_goesOn 46 = .ok (.aload_n 0, 1) := of_row (r := (46, .aload_n 0, 1)) DX7_goesOn_b0 24 rfl
theorem dX7_goesOn_47 : decode cX7_goesOn 47 = .ok (.invokevirtual 252, 3) := of_row (r := (47, .invokevirtual 252, 3)) DX7_goesOn_b0 25 rfl
theorem dX7_goesOn_50 : decode cX7_goesOn 50 = .ok (.aload_n 0, 1) := of_row (r := (50, .aload_n 0, 1)) DX7_goesOn_b0 26 rfl
theorem dX7_goesOn_51 : decode cX7_goesOn 51 = .ok (.getfield 142, 3) := of_row (r := (51, .getfield 142, 3)) DX7_goesOn_b0 27 rfl
theorem dX7_goesOn_54 : decode cX7_goesOn 54 = .ok (.bipush 109, 2) := of_row (r := (54, .bipush 109, 2)) DX7_goesOn_b0 28 rfl
theorem dX7_goesOn_56 : decode cX7_goesOn 56 = .ok (.if_icmp .ne 29, 3) := of_row (r := (56, .if_icmp .ne 29, 3)) DX7_goesOn_b0 29 rfl
theorem dX7_goesOn_59 : decode cX7_goesOn 59 = .ok (.aload_n 0, 1) := of_row (r := (59, .aload_n 0, 1)) DX7_goesOn_b0 30 rfl
theorem dX7_goesOn_60 : decode cX7_goesOn 60 = .ok (.getfield 35, 3) := of_row (r := (60, .getfield 35, 3)) DX7_goesOn_b0 31 rfl
theorem dX7_goesOn_63 : decode cX7_goesOn 63 = .ok (.aload_n 0, 1) := of_row (r := (63, .aload_n 0, 1)) DX7_goesOn_b0 32 rfl
theorem dX7_goesOn_64 : decode cX7_goesOn 64 = .ok (.getfield 232, 3) := of_row (r := (64, .getfield 232, 3)) DX7_goesOn_b0 33 rfl
theorem dX7_goesOn_67 : decode cX7_goesOn 67 = .ok (.iconst 3, 1) := of_row (r := (67, .iconst 3, 1)) DX7_goesOn_b0 34 rfl
theorem dX7_goesOn_68 : decode cX7_goesOn 68 = .ok (.iastore, 1) := of_row (r := (68, .iastore, 1)) DX7_goesOn_b0 35 rfl
theorem dX7_goesOn_69 : decode cX7_goesOn 69 = .ok (.aload_n 0, 1) := of_row (r := (69, .aload_n 0, 1)) DX7_goesOn_b0 36 rfl
theorem dX7_goesOn_70 : decode cX7_goesOn 70 = .ok (.dup, 1) := of_row (r := (70, .dup, 1)) DX7_goesOn_b0 37 rfl
theorem dX7_goesOn_71 : decode cX7_goesOn 71 = .ok (.getfield 232, 3) := of_row (r := (71, .getfield 232, 3)) DX7_goesOn_b0 38 rfl
theorem dX7_goesOn_74 : decode cX7_goesOn 74 = .ok (.iconst 1, 1) := of_row (r := (74, .iconst 1, 1)) DX7_goesOn_b0 39 rfl
theorem dX7_goesOn_75 : decode cX7_goesOn 75 = .ok (.iadd, 1) := of_row (r := (75, .iadd, 1)) DX7_goesOn_b0 40 rfl
theorem dX7_goesOn_76 : decode cX7_goesOn 76 = .ok (.putfield 232, 3) := of_row (r := (76, .putfield 232, 3)) DX7_goesOn_b0 41 rfl
theorem dX7_goesOn_79 : decode cX7_goesOn 79 = .ok (.aload_n 0, 1) := of_row (r := (79, .aload_n 0, 1)) DX7_goesOn_b0 42 rfl
theorem dX7_goesOn_80 : decode cX7_goesOn 80 = .ok (.invokevirtual 214, 3) := of_row (r := (80, .invokevirtual 214, 3)) DX7_goesOn_b0 43 rfl
theorem dX7_goesOn_83 : decode cX7_goesOn 83 = .ok (.iconst 1, 1) := of_row (r := (83, .iconst 1, 1)) DX7_goesOn_b0 44 rfl
theorem dX7_goesOn_84 : decode cX7_goesOn 84 = .ok (.ireturn, 1) := of_row (r := (84, .ireturn, 1)) DX7_goesOn_b0 45 rfl
theorem dX7_goesOn_85 : decode cX7_goesOn 85 = .ok (.aload_n 0, 1) := of_row (r := (85, .aload_n 0, 1)) DX7_goesOn_b0 46 rfl
theorem dX7_goesOn_86 : decode cX7_goesOn 86 = .ok (.iconst 4, 1) := of_row (r := (86, .iconst 4, 1)) DX7_goesOn_b0 47 rfl
theorem dX7_goesOn_87 : decode cX7_goesOn 87 = .ok (.invokevirtual 249, 3) := of_row (r := (87, .invokevirtual 249, 3)) DX7_goesOn_b0 48 rfl
theorem dX7_goesOn_90 : decode cX7_goesOn 90 = .ok (.ifCond .eq 7, 3) := of_row (r := (90, .ifCond .eq 7, 3)) DX7_goesOn_b0 49 rfl
theorem dX7_goesOn_93 : decode cX7_goesOn 93 = .ok (.aload_n 0, 1) := of_row (r := (93, .aload_n 0, 1)) DX7_goesOn_b0 50 rfl
theorem dX7_goesOn_94 : decode cX7_goesOn 94 = .ok (.invokevirtual 252, 3) := of_row (r := (94, .invokevirtual 252, 3)) DX7_goesOn_b0 51 rfl
theorem dX7_goesOn_97 : decode cX7_goesOn 97 = .ok (.aload_n 0, 1) := of_row (r := (97, .aload_n 0, 1)) DX7_goesOn_b0 52 rfl
theorem dX7_goesOn_98 : decode cX7_goesOn 98 = .ok (.getfield 142, 3) := of_row (r := (98, .getfield 142, 3)) DX7_goesOn_b0 53 rfl
theorem dX7_goesOn_101 : decode cX7_goesOn 101 = .ok (.bipush 108, 2) := of_row (r := (101, .bipush 108, 2)) DX7_goesOn_b0 54 rfl
theorem dX7_goesOn_103 : decode cX7_goesOn 103 = .ok (.if_icmp .ne 29, 3) := of_row (r := (103, .if_icmp .ne 29, 3)) DX7_goesOn_b0 55 rfl
theorem dX7_goesOn_106 : decode cX7_goesOn 106 = .ok (.aload_n 0, 1) := of_row (r := (106, .aload_n 0, 1)) DX7_goesOn_b0 56 rfl
theorem dX7_goesOn_107 : decode cX7_goesOn 107 = .ok (.getfield 35, 3) := of_row (r := (107, .getfield 35, 3)) DX7_goesOn_b0 57 rfl
theorem dX7_goesOn_110 : decode cX7_goesOn 110 = .ok (.aload_n 0, 1) := of_row (r := (110, .aload_n 0, 1)) DX7_goesOn_b0 58 rfl
theorem dX7_goesOn_111 : decode cX7_goesOn 111 = .ok (.getfield 232, 3) := of_row (r := (111, .getfield 232, 3)) DX7_goesOn_b0 59 rfl
set_option maxRecDepth 20000 in
theorem DX7_goesOn_b1 : ([(114, .iconst 4, 1), (115, .iastore, 1), (116, .aload_n 0, 1), (117, .dup, 1), (118, .getfield 232, 3), (121, .iconst 1, 1), (122, .iadd, 1), (123, .putfield 232, 3), (126, .aload_n 0, 1), (127, .invokevirtual 214, 3), (130, .iconst 1, 1), (131, .ireturn, 1), (132, .aload_n 0, 1), (133, .bipush 40, 2), (135, .invokevirtual 249, 3), (138, .ifCond .eq 16, 3), (141, .aload_n 0, 1), (142, .getfield 142, 3), (145, .bipush 41, 2), (147, .if_icmp .ne 7, 3), (150, .iconst 1, 1), (151, .goto 4, 3), (154, .iconst 0, 1), (155, .istore_n 1, 1), (156, .iload_n 1, 1), (157, .ifCond .eq (-155), 3), (160, .aload_n 0, 1), (161, .dup, 1), (162, .getfield 232, 3), (165, .iconst 1, 1), (166, .isub, 1), (167, .putfield 232, 3), (170, .aload_n 0, 1), (171, .dup, 1), (172, .getfield 239, 3), (175, .iconst 1, 1), (176, .isub, 1), (177, .putfield 239, 3), (180, .aload_n 0, 1), (181, .invokevirtual 214, 3), (184, .goto (-182), 3), (187, .aload_n 0, 1), (188, .getfield 208, 3), (191, .ifCond .ge 14, 3), (194, .aload_n 0, 1), (195, .getfield 232, 3), (198, .ifCond .le 7, 3), (201, .aload_n 0, 1), (202, .invokevirtual 211, 3), (205, .iconst 0, 1), (206, .ireturn, 1)] : List (Nat × Instr × Nat)).all (fun r => decide (decode cX7_goesOn r.1 = .ok r.2)) = true := by decide +kernel
theorem dX7_goesOn_114 : decode cX7_goesOn 114 = .ok (.iconst 4, 1) := of_row (r := (114, .iconst 4, 1)) DX7_goesOn_b1 0 rfl
theorem dX7_goesOn_115 : decode cX7_goesOn 115 = .ok (.iastore, 1) := of_row (r := (115, .iastore, 1)) DX7_goesOn_b1 1 rfl
theorem dX7_goesOn_116 : decode cX7_goesOn 116 = .ok (.aload_n 0, 1) := of_row (r := (116, .aload_n 0, 1)) DX7_goesOn_b1 2 rfl
theorem dX7_goesOn_117 : decode cX7_goesOn 117 = .ok (.dup, 1) := of_row (r := (117, .dup, 1)) DX7_goesOn_b1 3 rfl
theorem dX7_goesOn_118 : decode cX7_goesOn 118 = .ok (.getfield 232, 3) := of_row (r := (118, .getfield 232, 3)) DX7_goesOn_b1 4 rfl
theorem dX7_goesOn_121 : decode cX7_goesOn 121 = .ok (.iconst 1, 1) := of_row (r := (121, .iconst 1, 1)) DX7_goesOn_b1 5 rfl
theorem dX7_goesOn_122 : decode cX7_goesOn 122 = .ok (.iadd, 1) := of_row (r := (122, .iadd, 1)) DX7_goesOn_b1 6 rfl
theorem dX7_goesOn_123 : decode cX7_goesOn 123 = .ok (.putfield 232, 3) := of_row (r := (123, .putfield 232, 3)) DX7_goesOn_b1 7 rfl
theorem dX7_goesOn_126 : decode cX7_goesOn 126 = .ok (.aload_n 0, 1) := of_row (r := (126, .aload_n 0, 1)) DX7_goesOn_b1 8 rfl
theorem dX7_goesOn_127 : decode cX7_goesOn 127 = .ok (.invokevirtual 214, 3) := of_row (r := (127, .invokevirtual 214, 3)) DX7_goesOn_b1 9 rfl
theorem dX7_goesOn_130 : decode cX7_goesOn 130 = .ok (.iconst 1, 1) := of_row (r := (130, .iconst 1, 1)) DX7_goesOn_b1 10 rfl
theorem dX7_goesOn_131 : decode cX7_goesOn 131 = .ok (.ireturn, 1) := of_row (r := (131, .ireturn, 1)) DX7_goesOn_b1 11 rfl
theorem dX7_goesOn_132 : decode cX7_goesOn 132 = .ok (.aload_n 0, 1) := of_row (r := (132, .aload_n 0, 1)) DX7_goesOn_b1 12 rfl
theorem dX7_goesOn_133 : decode cX7_goesOn 133 = .ok (.bipush 40, 2) := of_row (r := (133, .bipush 40, 2)) DX7_goesOn_b1 13 rfl
theorem dX7_goesOn_135 : decode cX7_goesOn 135 = .ok (.invokevirtual 249, 3) := of_row (r := (135, .invokevirtual 249, 3)) DX7_goesOn_b1 14 rfl
theorem dX7_goesOn_138 : decode cX7_goesOn 138 = .ok (.ifCond .eq 16, 3) := of_row (r := (138, .ifCond .eq 16, 3)) DX7_goesOn_b1 15 rfl
theorem dX7_goesOn_141 : decode cX7_goesOn 141 = .ok (.aload_n 0, 1) := of_row (r := (141, .aload_n 0, 1)) DX7_goesOn_b1 16 rfl
theorem dX7_goesOn_142 : decode cX7_goesOn 142 = .ok (.getfield 142, 3) := of_row (r := (142, .getfield 142, 3)) DX7_goesOn_b1 17 rfl
theorem dX7_goesOn_145 : decode cX7_goesOn 145 = .ok (.bipush 41, 2) := of_row (r := (145, .bipush 41, 2)) DX7_goesOn_b1 18 rfl
theorem dX7_goesOn_147 : decode cX7_goesOn 147 = .ok (.if_icmp .ne 7, 3) := of_row (r := (147, .if_icmp .ne 7, 3)) DX7_goesOn_b1 19 rfl
theorem dX7_goesOn_150 : decode cX7_goesOn 150 = .ok (.iconst 1, 1) := of_row (r := (150, .iconst 1, 1)) DX7_goesOn_b1 20 rfl
theorem dX7_goesOn_151 : decode cX7_goesOn 151 = .ok (.goto 4, 3) := of_row (r := (151, .goto 4, 3)) DX7_goesOn_b1 21 rfl
theorem dX7_goesOn_154 : decode cX7_goesOn 154 = .ok (.iconst 0, 1) := of_row (r := (154, .iconst 0, 1)) DX7_goesOn_b1 22 rfl
theorem dX7_goesOn_155 : decode cX7_goesOn 155 = .ok (.istore_n 1, 1) := of_row (r := (155, .istore_n 1, 1)) DX7_goesOn_b1 23 rfl
theorem dX7_goesOn_156 : decode cX7_goesOn 156 = .ok (.iload_n 1, 1) := of_row (r := (156, .iload_n 1, 1)) DX7_goesOn_b1 24 rfl
theorem dX7_goesOn_157 : decode cX7_goesOn 157 = .ok (.ifCond .eq (-155), 3) := of_row (r := (157, .ifCond .eq (-155), 3)) DX7_goesOn_b1 25 rfl
theorem dX7_goesOn_160 : decode cX7_goesOn 160 = .ok (.aload_n 0, 1) := of_row (r := (160, .aload_n 0, 1)) DX7_goesOn_b1 26 rfl
theorem dX7_goesOn_161 : decode cX7_goesOn 161 = .ok (.dup, 1) := of_row (r := (161, .dup, 1)) DX7_goesOn_b1 27 rfl
theorem dX7_goesOn_162 : decode cX7_goesOn 162 = .ok (.getfield 232, 3) := of_row (r := (162, .getfield 232, 3)) DX7_goesOn_b1 28 rfl
theorem dX7_goesOn_165 : decode cX7_goesOn 165 = .ok (.iconst 1, 1) := of_row (r := (165, .iconst 1, 1)) DX7_goesOn_b1 29 rfl
theorem dX7_goesOn_166 : decode cX7_goesOn 166 = .ok (.isub, 1) := of_row (r := (166, .isub, 1)) DX7_goesOn_b1 30 rfl
theorem dX7_goesOn_167 : decode cX7_goesOn 167 = .ok (.putfield 232, 3) := of_row (r := (167, .putfield 232, 3)) DX7_goesOn_b1 31 rfl
theorem dX7_goesOn_170 : decode cX7_goesOn 170 = .ok (.aload_n 0, 1) := of_row (r := (170, .aload_n 0, 1)) DX7_goesOn_b1 32 rfl
theorem dX7_goesOn_171 : decode cX7_goesOn 171 = .ok (.dup, 1) := of_row (r := (171, .dup, 1)) DX7_goesOn_b1 33 rfl
theorem dX7_goesOn_172 : decode cX7_goesOn 172 = .ok (.getfield 239, 3) := of_row (r := (172, .getfield 239, 3)) DX7_goesOn_b1 34 rfl
theorem dX7_goesOn_175 : decode cX7_goesOn 175 = .ok (.iconst 1, 1) := of_row (r := (175, .iconst 1, 1)) DX7_goesOn_b1 35 rfl
theorem dX7_goesOn_176 : decode cX7_goesOn 176 = .ok (.isub, 1) := of_row (r := (176, .isub, 1)) DX7_goesOn_b1 36 rfl
theorem dX7_goesOn_177 : decode cX7_goesOn 177 = .ok (.putfield 239, 3) := of_row (r := (177, .putfield 239, 3)) DX7_goesOn_b1 37 rfl
theorem dX7_goesOn_180 : decode cX7_goesOn 180 = .ok (.aload_n 0, 1) := of_row (r := (180, .aload_n 0, 1)) DX7_goesOn_b1 38 rfl
theorem dX7_goesOn_181 : decode cX7_goesOn 181 = .ok (.invokevirtual 214, 3) := of_row (r := (181, .invokevirtual 214, 3)) DX7_goesOn_b1 39 rfl
theorem dX7_goesOn_184 : decode cX7_goesOn 184 = .ok (.goto (-182), 3) := of_row (r := (184, .goto (-182), 3)) DX7_goesOn_b1 40 rfl
theorem dX7_goesOn_187 : decode cX7_goesOn 187 = .ok (.aload_n 0, 1) := of_row (r := (187, .aload_n 0, 1)) DX7_goesOn_b1 41 rfl
theorem dX7_goesOn_188 : decode cX7_goesOn 188 = .ok (.getfield 208, 3) := of_row (r := (188, .getfield 208, 3)) DX7_goesOn_b1 42 rfl
theorem dX7_goesOn_191 : decode cX7_goesOn 191 = .ok (.ifCond .ge 14, 3) := of_row (r := (191, .ifCond .ge 14, 3)) DX7_goesOn_b1 43 rfl
theorem dX7_goesOn_194 : decode cX7_goesOn 194 = .ok (.aload_n 0, 1) := of_row (r := (194, .aload_n 0, 1)) DX7_goesOn_b1 44 rfl
theorem dX7_goesOn_195 : decode cX7_goesOn 195 = .ok (.getfield 232, 3) := of_row (r := (195, .getfield 232, 3)) DX7_goesOn_b1 45 rfl
theorem dX7_goesOn_198 : decode cX7_goesOn 198 = .ok (.ifCond .le 7, 3) := of_row (r := (198, .ifCond .le 7, 3)) DX7_goesOn_b1 46 rfl
theorem dX7_goesOn_201 : decode cX7_goesOn 201 = .ok (.aload_n 0, 1) := of_row (r := (201, .aload_n 0, 1)) DX7_goesOn_b1 47 rfl
theorem dX7_goesOn_202 : decode cX7_goesOn 202 = .ok (.invokevirtual 211, 3) := of_row (r := (202, .invokevirtual 211, 3)) DX7_goesOn_b1 48 rfl
theorem dX7_goesOn_205 : decode cX7_goesOn 205 = .ok (.iconst 0, 1) := of_row (r := (205, .iconst 0, 1)) DX7_goesOn_b1 49 rfl
theorem dX7_goesOn_206 : decode cX7_goesOn 206 = .ok (.ireturn, 1) := of_row (r := (206, .ireturn, 1)) DX7_goesOn_b1 50 rfl
set_option maxRecDepth 20000 in
theorem DX7_relation_b0 : ([(0, .aload_n 0, 1), (1, .invokevirtual 255, 3), (4, .aload_n 0, 1), (5, .getfield 208, 3), (8, .ifCond .lt 4, 3), (11, .return_, 1), (12, .aload_n 0, 1), (13, .getfield 142, 3), (16, .bipush 60, 2), (18, .if_icmp .ne 7, 3), (21, .iconst 5, 1), (22, .goto 32, 3), (25, .aload_n 0, 1), (26, .getfield 142, 3), (29, .bipush 61, 2), (31, .if_icmp .ne 8, 3), (34, .bipush 6, 2), (36, .goto 18, 3), (39, .aload_n 0, 1), (40, .getfield 142, 3), (43, .bipush 62, 2), (45, .if_icmp .ne 8, 3), (48, .bipush 7, 2), (50, .goto 4, 3), (53, .iconst 0, 1), (54, .istore_n 1, 1), (55, .iload_n 1, 1), (56, .ifCond .ne 8, 3), (59, .aload_n 0, 1), (60, .invokevirtual 211, 3), (63, .return_, 1), (64, .aload_n 0, 1), (65, .invokevirtual 214, 3), (68, .aload_n 0, 1), (69, .invokevirtual 255, 3), (72, .aload_n 0, 1), (73, .iload_n 1, 1), (74, .iconst 0, 1), (75, .invokevirtual 235, 3), (78, .return_, 1)] : List (Nat × Instr × Nat)).all (fun r => decide (decode cX7_relation r.1 = .ok r.2)) = true := by decide +kernel
theorem dX7_relation_0 : decode cX7_relation 0 = .ok (.aload_n 0, 1) := of_row (r := (0, .aload_n 0, 1)) DX7_relation_b0 0 rfl
theorem dX7_relation_1 : decode cX7_relation 1 = .ok (.invokevirtual 255, 3) := of_row (r := (1, .invokevirtual 255, 3)) DX7_relation_b0 1 rfl
theorem dX7_relation_4 : decode cX7_relation 4 = .ok (.aload_n 0, 1) := of_row (r := (4, .aload_n 0, 1)) DX7_relation_b0 2 rfl
theorem dX7_relation_5 : decode cX7_relation 5 = .ok (.getfield 208, 3) := of_row (r := (5, .getfield 208, 3)) DX7_relation_b0 3 rfl
theorem dX7_relation_8 : decode cX7_relation 8 = .ok (.ifCond .lt 4, 3) := of_row (r := (8, .ifCond .lt 4, 3)) DX7_relation_b0 4 rfl
theorem dX7_relation_11 : decode cX7_relation 11 = .ok (.return_, 1) := of_row (r := (11, .return_, 1)) DX7_relation_b0 5 rfl
theorem dX7_relation_12 : decode cX7_relation 12 = .ok (.aload_n 0, 1) := of_row (r := (12, .aload_n 0, 1)) DX7_relation_b0 6 rfl
theorem dX7_relation_13 : decode cX7_relation 13 = .ok (.getfield 142, 3) := of_row (r := (13, .getfield 142, 3)) DX7_relation_b0 7 rfl
theorem dX7_relation_16 : decode cX7_relation 16 = .ok (.bipush 60, 2) := of_row (r := (16, .bipush 60, 2)) DX7_relation_b0 8 rfl
theorem dX7_relation_18 : decode cX7_relation 18 = .ok (.if_icmp .ne 7, 3) := of_row (r := (18, .if_icmp .ne 7, 3)) DX7_relation_b0 9 rfl
theorem dX7_relation_21 : decode cX7_relation 21 = .ok (.iconst 5, 1) := of_row (r := (21, .iconst 5, 1)) DX7_relation_b0 10 rfl
theorem dX7_relation_22 : decode cX7_relation 22 = .ok (.goto 32, 3) := of_row (r := (22, .goto 32, 3)) DX7_relation_b0 11 rfl
theorem dX7_relation_25 : decode cX7_relation 25 = .ok (.aload_n 0, 1) := of_row (r := (25, .aload_n 0, 1)) DX7_relation_b0 12 rfl
theorem dX7_relation_26 : decode cX7_relation 26 = .ok (.getfield 142, 3) := of_row (r := (26, .getfield 142, 3)) DX7_relation_b0 13 rfl
theorem dX7_relation_29 : decode cX7_relation 29 = .ok (.bipush 61, 2) := of_row (r := (29, .bipush 61, 2)) DX7_relation_b0 14 rfl
theorem dX7_relation_31 : decode cX7_relation 31 = .ok (.if_icmp .ne 8, 3) := of_row (r := (31, .if_icmp .ne 8, 3)) DX7_relation_b0 15 rfl
theorem dX7_relation_34 : decode cX7_relation 34 = .ok (.bipush 6, 2) := of_row (r := (34, .bipush 6, 2)) DX7_relation_b0 16 rfl
theorem dX7_relation_36 : decode cX7_relation 36 = .ok (.goto 18, 3) := of_row (r := (36, .goto 18, 3)) DX7_relation_b0 17 rfl
theorem dX7_relation_39 : decode cX7_relation 39 = .ok (.aload_n 0, 1) := of_row (r := (39, .aload_n 0, 1)) DX7_relation_b0 18 rfl
theorem dX7_relation_40 : decode cX7_relation 40 = .ok (.getfield 142, 3) := of_row (r := (40, .getfield 142, 3)) DX7_relation_b0 19 rfl
theorem dX7_relation_43 : decode cX7_relation 43 = .ok (.bipush 62, 2) := of_row (r := (43, .bipush 62, 2)) DX7_relation_b0 20 rfl
theorem dX7_relation_45 : decode cX7_relation 45 = .ok (.if_icmp .ne 8, 3) := of_row (r := (45, .if_icmp .ne 8, 3)) DX7_relation_b0 21 rfl
theorem dX7_relation_48 : decode cX7_relation 48 = .ok (.bipush 7, 2) := of_row (r := (48, .bipush 7, 2)) DX7_relation_b0 22 rfl
theorem dX7_relation_50 : decode cX7_relation 50 = .ok (.goto 4, 3) := of_row (r := (50, .goto 4, 3)) DX7_relation_b0 23 rfl
theorem dX7_relation_53 : decode cX7_relation 53 = .ok (.iconst 0, 1) := of_row (r := (53, .iconst 0, 1)) DX7_relation_b0 24 rfl
theorem dX7_relation_54 : decode cX7_relation 54 = .ok (.istore_n 1, 1) := of_row (r := (54, .istore_n 1, 1)) DX7_relation_b0 25 rfl
theorem dX7_relation_55 : decode cX7_relation 55 = .ok (.iload_n 1, 1) := of_row (r := (55, .iload_n 1, 1)) DX7_relation_b0 26 rfl
theorem dX7_relation_56 : decode cX7_relation 56 = .ok (.ifCond .ne 8, 3) := of_row (r := (56, .ifCond .ne 8, 3)) DX7_relation_b0 27 rfl
theorem dX7_relation_59 : decode cX7_relation 59 = .ok (.aload_n 0, 1) := of_row (r := (59, .aload_n 0, 1)) DX7_relation_b0 28 rfl
theorem dX7_relation_60 : decode cX7_relation 60 = .ok (.invokevirtual 211, 3) := of_row (r := (60, .invokevirtual 211, 3)) DX7_relation_b0 29 rfl
theorem dX7_relation_63 : decode cX7_relation 63 = .ok (.return_, 1) := of_row (r := (63, .return_, 1)) DX7_relation_b0 30 rfl
theorem dX7_relation_64 : decode cX7_relation 64 = .ok (.aload_n 0, 1) := of_row (r := (64, .aload_n 0, 1)) DX7_relation_b0 31 rfl
theorem dX7_relation_65 : decode cX7_relation 65 = .ok (.invokevirtual 214, 3) := of_row (r := (65, .invokevirtual 214, 3)) DX7_relation_b0 32 rfl
theorem dX7_relation_68 : decode cX7_relation 68 = .ok (.aload_n 0, 1) := of_row (r := (68, .aload_n 0, 1)) DX7_relation_b0 33 rfl
theorem dX7_relation_69 : decode cX7_relation 69 = .ok (.invokevirtual 255, 3) := of_row (r := (69, .invokevirtual 255, 3)) DX7_relation_b0 34 rfl
theorem dX7_relation_72 : decode cX7_relation 72 = .ok (.aload_n 0, 1) := of_row (r := (72, .aload_n 0, 1)) DX7_relation_b0 35 rfl
theorem dX7_relation_73 : decode cX7_relation 73 = .ok (.iload_n 1, 1) := of_row (r := (73, .iload_n 1, 1)) DX7_relation_b0 36 rfl
theorem dX7_relation_74 : decode cX7_relation 74 = .ok (.iconst 0, 1) := of_row (r := (74, .iconst 0, 1)) DX7_relation_b0 37 rfl
theorem dX7_relation_75 : decode cX7_relation 75 = .ok (.invokevirtual 235, 3) := of_row (r := (75, .invokevirtual 235, 3)) DX7_relation_b0 38 rfl
theorem dX7_relation_78 : decode cX7_relation 78 = .ok (.return_, 1) := of_row (r := (78, .return_, 1)) DX7_relation_b0 39 rfl
set_option maxRecDepth 20000 in
theorem DX7_readSum_b0 : ([(0, .aload_n 0, 1), (1, .invokevirtual 258, 3), (4, .aload_n 0, 1), (5, .getfield 208, 3), (8, .ifCond .ge 55, 3), (11, .aload_n 0, 1), (12, .getfield 142, 3), (15, .bipush 43, 2), (17, .if_icmp .eq 12, 3), (20, .aload_n 0, 1), (21, .getfield 142, 3), (24, .bipush 45, 2), (26, .if_icmp .ne 37, 3), (29, .aload_n 0, 1), (30, .getfield 142, 3), (33, .bipush 43, 2), (35, .if_icmp .ne 8, 3), (38, .bipush 8, 2), (40, .goto 5, 3), (43, .bipush 9, 2), (45, .istore_n 1, 1), (46, .aload_n 0, 1), (47, .invokevirtual 214, 3), (50, .aload_n 0, 1), (51, .invokevirtual 258, 3), (54, .aload_n 0, 1), (55, .iload_n 1, 1), (56, .iconst 0, 1), (57, .invokevirtual 235, 3), (60, .goto (-56), 3), (63, .return_, 1)] : List (Nat × Instr × Nat)).all (fun r => decide (decode cX7_readSum r.1 = .ok r.2)) = true := by decide +kernel
theorem dX7_readSum_0 : decode cX7_readSum 0 = .ok (.aload_n 0, 1) := of_row (r := (0, .aload_n 0, 1)) DX7_readSum_b0 0 rfl
theorem dX7_readSum_1 : decode cX7_readSum 1 = .ok (.invokevirtual 258, 3) := of_row (r := (1, .invokevirtual 258, 3)) DX7_readSum_b0 1 rfl
theorem dX7_readSum_4 : decode cX7_readSum 4 = .ok (.aload_n 0, 1) := of_row (r := (4, .aload_n 0, 1)) DX7_readSum_b0 2 rfl
theorem dX7_readSum_5 : decode cX7_readSum 5 = .ok (.getfield 208, 3) := of_row (r := (5, .getfield 208, 3)) DX7_readSum_b0 3 rfl
theorem dX7_readSum_8 : decode cX7_readSum 8 = .ok (.ifCond .ge 55, 3) := of_row (r := (8, .ifCond .ge 55, 3)) DX7_readSum_b0 4 rfl
theorem dX7_readSum_11 : decode cX7_readSum 11 = .ok (.aload_n 0, 1) := of_row (r := (11, .aload_n 0, 1)) DX7_readSum_b0 5 rfl
theorem dX7_readSum_12 : decode cX7_readSum 12 = .ok (.getfield 142, 3) := of_row (r := (12, .getfield 142, 3)) DX7_readSum_b0 6 rfl
theorem dX7_readSum_15 : decode cX7_readSum 15 = .ok (.bipush 43, 2) := of_row (r := (15, .bipush 43, 2)) DX7_readSum_b0 7 rfl
theorem dX7_readSum_17 : decode cX7_readSum 17 = .ok (.if_icmp .eq 12, 3) := of_row (r := (17, .if_icmp .eq 12, 3)) DX7_readSum_b0 8 rfl
theorem dX7_readSum_20 : decode cX7_readSum 20 = .ok (.aload_n 0, 1) := of_row (r := (20, .aload_n 0, 1)) DX7_readSum_b0 9 rfl
theorem dX7_readSum_21 : decode cX7_readSum 21 = .ok (.getfield 142, 3) := of_row (r := (21, .getfield 142, 3)) DX7_readSum_b0 10 rfl
theorem dX7_readSum_24 : decode cX7_readSum 24 = .ok (.bipush 45, 2) := of_row (r := (24, .bipush 45, 2)) DX7_readSum_b0 11 rfl
theorem dX7_readSum_26 : decode cX7_readSum 26 = .ok (.if_icmp .ne 37, 3) := of_row (r := (26, .if_icmp .ne 37, 3)) DX7_readSum_b0 12 rfl
theorem dX7_readSum_29 : decode cX7_readSum 29 = .ok (.aload_n 0, 1) := of_row (r := (29, .aload_n 0, 1)) DX7_readSum_b0 13 rfl
theorem dX7_readSum_30 : decode cX7_readSum 30 = .ok (.getfield 142, 3) := of_row (r := (30, .getfield 142, 3)) DX7_readSum_b0 14 rfl
theorem dX7_readSum_33 : decode cX7_readSum 33 = .ok (.bipush 43, 2) := of_row (r := (33, .bipush 43, 2)) DX7_readSum_b0 15 rfl
theorem dX7_readSum_35 : decode cX7_readSum 35 = .ok (.if_icmp .ne 8, 3) := of_row (r := (35, .if_icmp .ne 8, 3)) DX7_readSum_b0 16 rfl
theorem dX7_readSum_38 : decode cX7_readSum 38 = .ok (.bipush 8, 2) := of_row (r := (38, .bipush 8, 2)) DX7_readSum_b0 17 rfl
theorem dX7_readSum_40 : decode cX7_readSum 40 = .ok (.goto 5, 3) := of_row (r := (40, .goto 5, 3)) DX7_readSum_b0 18 rfl
theorem dX7_readSum_43 : decode cX7_readSum 43 = .ok (.bipush 9, 2) := of_row (r := (43, .bipush 9, 2)) DX7_readSum_b0 19 rfl
theorem dX7_readSum_45 : decode cX7_readSum 45 = .ok (.istore_n 1, 1) := of_row (r := (45, .istore_n 1, 1)) DX7_readSum_b0 20 rfl
theorem dX7_readSum_46 : decode cX7_readSum 46 = .ok (.aload_n 0, 1) := of_row (r := (46, .aload_n 0, 1)) DX7_readSum_b0 21 rfl
theorem dX7_readSum_47 : decode cX7_readSum 47 = .ok (.invokevirtual 214, 3) := of_row (r := (47, .invokevirtual 214, 3)) DX7_readSum_b0 22 rfl
theorem dX7_readSum_50 : decode cX7_readSum 50 = .ok (.aload_n 0, 1) := of_row (r := (50, .aload_n 0, 1)) DX7_readSum_b0 23 rfl
theorem dX7_readSum_51 : decode cX7_readSum 51 = .ok (.invokevirtual 258, 3) := of_row (r := (51, .invokevirtual 258, 3)) DX7_readSum_b0 24 rfl
theorem dX7_readSum_54 : decode cX7_readSum 54 = .ok (.aload_n 0, 1) := of_row (r := (54, .aload_n 0, 1)) DX7_readSum_b0 25 rfl
theorem dX7_readSum_55 : decode cX7_readSum 55 = .ok (.iload_n 1, 1) := of_row (r := (55, .iload_n 1, 1)) DX7_readSum_b0 26 rfl
theorem dX7_readSum_56 : decode cX7_readSum 56 = .ok (.iconst 0, 1) := of_row (r := (56, .iconst 0, 1)) DX7_readSum_b0 27 rfl
theorem dX7_readSum_57 : decode cX7_readSum 57 = .ok (.invokevirtual 235, 3) := of_row (r := (57, .invokevirtual 235, 3)) DX7_readSum_b0 28 rfl
theorem dX7_readSum_60 : decode cX7_readSum 60 = .ok (.goto (-56), 3) := of_row (r := (60, .goto (-56), 3)) DX7_readSum_b0 29 rfl
theorem dX7_readSum_63 : decode cX7_readSum 63 = .ok (.return_, 1) := of_row (r := (63, .return_, 1)) DX7_readSum_b0 30 rfl
set_option maxRecDepth 20000 in
theorem DX7_product_b0 : ([(0, .aload_n 0, 1), (1, .invokevirtual 261, 3), (4, .aload_n 0, 1), (5, .getfield 208, 3), (8, .ifCond .ge 30, 3), (11, .aload_n 0, 1), (12, .getfield 142, 3), (15, .bipush 42, 2), (17, .if_icmp .ne 21, 3), (20, .aload_n 0, 1), (21, .invokevirtual 214, 3), (24, .aload_n 0, 1), (25, .invokevirtual 261, 3), (28, .aload_n 0, 1), (29, .bipush 10, 2), (31, .iconst 0, 1), (32, .invokevirtual 235, 3), (35, .goto (-31), 3), (38, .return_, 1)] : List (Nat × Instr × Nat)).all (fun r => decide (decode cX7_product r.1 = .ok r.2)) = true := by decide +kernel
theorem dX7_product_0 : decode cX7_product 0 = .ok (.aload_n 0, 1) := of_row (r := (0, .aload_n 0, 1)) DX7_product_b0 0 rfl
theorem dX7_product_1 : decode cX7_product 1 = .ok (.invokevirtual 261, 3) := of_row (r := (1, .invokevirtual 261, 3)) DX7_product_b0 1 rfl
theorem dX7_product_4 : decode cX7_product 4 = .ok (.aload_n 0, 1) := of_row (r := (4, .aload_n 0, 1)) DX7_product_b0 2 rfl
theorem dX7_product_5 : decode cX7_product 5 = .ok (.getfield 208, 3) := of_row (r := (5, .getfield 208, 3)) DX7_product_b0 3 rfl
theorem dX7_product_8 : decode cX7_product 8 = .ok (.ifCond .ge 30, 3) := of_row (r := (8, .ifCond .ge 30, 3)) DX7_product_b0 4 rfl
theorem dX7_product_11 : decode cX7_product 11 = .ok (.aload_n 0, 1) := of_row (r := (11, .aload_n 0, 1)) DX7_product_b0 5 rfl
theorem dX7_product_12 : decode cX7_product 12 = .ok (.getfield 142, 3) := of_row (r := (12, .getfield 142, 3)) DX7_product_b0 6 rfl
theorem dX7_product_15 : decode cX7_product 15 = .ok (.bipush 42, 2) := of_row (r := (15, .bipush 42, 2)) DX7_product_b0 7 rfl
theorem dX7_product_17 : decode cX7_product 17 = .ok (.if_icmp .ne 21, 3) := of_row (r := (17, .if_icmp .ne 21, 3)) DX7_product_b0 8 rfl
theorem dX7_product_20 : decode cX7_product 20 = .ok (.aload_n 0, 1) := of_row (r := (20, .aload_n 0, 1)) DX7_product_b0 9 rfl
theorem dX7_product_21 : decode cX7_product 21 = .ok (.invokevirtual 214, 3) := of_row (r := (21, .invokevirtual 214, 3)) DX7_product_b0 10 rfl
theorem dX7_product_24 : decode cX7_product 24 = .ok (.aload_n 0, 1) := of_row (r := (24, .aload_n 0, 1)) DX7_product_b0 11 rfl
theorem dX7_product_25 : decode cX7_product 25 = .ok (.invokevirtual 261, 3) := of_row (r := (25, .invokevirtual 261, 3)) DX7_product_b0 12 rfl
theorem dX7_product_28 : decode cX7_product 28 = .ok (.aload_n 0, 1) := of_row (r := (28, .aload_n 0, 1)) DX7_product_b0 13 rfl
theorem dX7_product_29 : decode cX7_product 29 = .ok (.bipush 10, 2) := of_row (r := (29, .bipush 10, 2)) DX7_product_b0 14 rfl
theorem dX7_product_31 : decode cX7_product 31 = .ok (.iconst 0, 1) := of_row (r := (31, .iconst 0, 1)) DX7_product_b0 15 rfl
theorem dX7_product_32 : decode cX7_product 32 = .ok (.invokevirtual 235, 3) := of_row (r := (32, .invokevirtual 235, 3)) DX7_product_b0 16 rfl
theorem dX7_product_35 : decode cX7_product 35 = .ok (.goto (-31), 3) := of_row (r := (35, .goto (-31), 3)) DX7_product_b0 17 rfl
theorem dX7_product_38 : decode cX7_product 38 = .ok (.return_, 1) := of_row (r := (38, .return_, 1)) DX7_product_b0 18 rfl
set_option maxRecDepth 20000 in
theorem DX7_one_b0 : ([(0, .aload_n 0, 1), (1, .getfield 208, 3), (4, .ifCond .lt 4, 3), (7, .return_, 1), (8, .aload_n 0, 1), (9, .getfield 142, 3), (12, .bipush 50, 2), (14, .if_icmp .ne 28, 3), (17, .aload_n 0, 1), (18, .getfield 163, 3), (21, .bipush 6, 2), (23, .if_icmp .gt 19, 3), (26, .aload_n 0, 1), (27, .iconst 1, 1), (28, .aload_n 0, 1), (29, .getfield 160, 3), (32, .invokevirtual 235, 3), (35, .aload_n 0, 1), (36, .invokevirtual 214, 3), (39, .goto 37, 3), (42, .aload_n 0, 1), (43, .getfield 142, 3), (46, .bipush 111, 2), (48, .bipush 120, 2), (50, .invokestatic 132, 3), (53, .ifCond .eq 19, 3), (56, .aload_n 0, 1), (57, .aload_n 0, 1), (58, .getfield 142, 3), (61, .iconst 0, 1), (62, .invokevirtual 235, 3), (65, .aload_n 0, 1), (66, .invokevirtual 214, 3), (69, .goto 7, 3), (72, .aload_n 0, 1), (73, .invokevirtual 211, 3), (76, .return_, 1)] : List (Nat × Instr × Nat)).all (fun r => decide (decode cX7_one r.1 = .ok r.2)) = true := by decide +kernel
theorem dX7_one_0 : decode cX7_one 0 = .ok (.aload_n 0, 1) := of_row (r := (0, .aload_n 0, 1)) DX7_one_b0 0 rfl
theorem dX7_one_1 : decode cX7_one 1 = .ok (.getfield 208, 3) := of_row (r := (1, .getfield 208, 3)) DX7_one_b0 1 rfl
theorem dX7_one_4 : decode cX7_one 4 = .ok (.ifCond .lt 4, 3) := of_row (r := (4, .ifCond .lt 4, 3)) DX7_one_b0 2 rfl
theorem dX7_one_7 : decode cX7_one 7 = .ok (.return_, 1) := of_row (r := (7, .return_, 1)) DX7_one_b0 3 rfl
theorem dX7_one_8 : decode cX7_one 8 = .ok (.aload_n 0, 1) := of_row (r := (8, .aload_n 0, 1)) DX7_one_b0 4 rfl
theorem dX7_one_9 : decode cX7_one 9 = .ok (.getfield 142, 3) := of_row (r := (9, .getfield 142, 3)) DX7_one_b0 5 rfl
theorem dX7_one_12 : decode cX7_one 12 = .ok (.bipush 50, 2) := of_row (r := (12, .bipush 50, 2)) DX7_one_b0 6 rfl
theorem dX7_one_14 : decode cX7_one 14 = .ok (.if_icmp .ne 28, 3) := of_row (r := (14, .if_icmp .ne 28, 3)) DX7_one_b0 7 rfl
theorem dX7_one_17 : decode cX7_one 17 = .ok (.aload_n 0, 1) := of_row (r := (17, .aload_n 0, 1)) DX7_one_b0 8 rfl
theorem dX7_one_18 : decode cX7_one 18 = .ok (.getfield 163, 3) := of_row (r := (18, .getfield 163, 3)) DX7_one_b0 9 rfl
theorem dX7_one_21 : decode cX7_one 21 = .ok (.bipush 6, 2) := of_row (r := (21, .bipush 6, 2)) DX7_one_b0 10 rfl
theorem dX7_one_23 : decode cX7_one 23 = .ok (.if_icmp .gt 19, 3) := of_row (r := (23, .if_icmp .gt 19, 3)) DX7_one_b0 11 rfl
theorem dX7_one_26 : decode cX7_one 26 = .ok (.aload_n 0, 1) := of_row (r := (26, .aload_n 0, 1)) DX7_one_b0 12 rfl
theorem dX7_one_27 : decode cX7_one 27 = .ok (.iconst 1, 1) := of_row (r := (27, .iconst 1, 1)) DX7_one_b0 13 rfl
theorem dX7_one_28 : decode cX7_one 28 = .ok (.aload_n 0, 1) := of_row (r := (28, .aload_n 0, 1)) DX7_one_b0 14 rfl
theorem dX7_one_29 : decode cX7_one 29 = .ok (.getfield 160, 3) := of_row (r := (29, .getfield 160, 3)) DX7_one_b0 15 rfl
theorem dX7_one_32 : decode cX7_one 32 = .ok (.invokevirtual 235, 3) := of_row (r := (32, .invokevirtual 235, 3)) DX7_one_b0 16 rfl
theorem dX7_one_35 : decode cX7_one 35 = .ok (.aload_n 0, 1) := of_row (r := (35, .aload_n 0, 1)) DX7_one_b0 17 rfl
theorem dX7_one_36 : decode cX7_one 36 = .ok (.invokevirtual 214, 3) := of_row (r := (36, .invokevirtual 214, 3)) DX7_one_b0 18 rfl
theorem dX7_one_39 : decode cX7_one 39 = .ok (.goto 37, 3) := of_row (r := (39, .goto 37, 3)) DX7_one_b0 19 rfl
theorem dX7_one_42 : decode cX7_one 42 = .ok (.aload_n 0, 1) := of_row (r := (42, .aload_n 0, 1)) DX7_one_b0 20 rfl
theorem dX7_one_43 : decode cX7_one 43 = .ok (.getfield 142, 3) := of_row (r := (43, .getfield 142, 3)) DX7_one_b0 21 rfl
theorem dX7_one_46 : decode cX7_one 46 = .ok (.bipush 111, 2) := of_row (r := (46, .bipush 111, 2)) DX7_one_b0 22 rfl
theorem dX7_one_48 : decode cX7_one 48 = .ok (.bipush 120, 2) := of_row (r := (48, .bipush 120, 2)) DX7_one_b0 23 rfl
theorem dX7_one_50 : decode cX7_one 50 = .ok (.invokestatic 132, 3) := of_row (r := (50, .invokestatic 132, 3)) DX7_one_b0 24 rfl
theorem dX7_one_53 : decode cX7_one 53 = .ok (.ifCond .eq 19, 3) := of_row (r := (53, .ifCond .eq 19, 3)) DX7_one_b0 25 rfl
theorem dX7_one_56 : decode cX7_one 56 = .ok (.aload_n 0, 1) := of_row (r := (56, .aload_n 0, 1)) DX7_one_b0 26 rfl
theorem dX7_one_57 : decode cX7_one 57 = .ok (.aload_n 0, 1) := of_row (r := (57, .aload_n 0, 1)) DX7_one_b0 27 rfl
theorem dX7_one_58 : decode cX7_one 58 = .ok (.getfield 142, 3) := of_row (r := (58, .getfield 142, 3)) DX7_one_b0 28 rfl
theorem dX7_one_61 : decode cX7_one 61 = .ok (.iconst 0, 1) := of_row (r := (61, .iconst 0, 1)) DX7_one_b0 29 rfl
theorem dX7_one_62 : decode cX7_one 62 = .ok (.invokevirtual 235, 3) := of_row (r := (62, .invokevirtual 235, 3)) DX7_one_b0 30 rfl
theorem dX7_one_65 : decode cX7_one 65 = .ok (.aload_n 0, 1) := of_row (r := (65, .aload_n 0, 1)) DX7_one_b0 31 rfl
theorem dX7_one_66 : decode cX7_one 66 = .ok (.invokevirtual 214, 3) := of_row (r := (66, .invokevirtual 214, 3)) DX7_one_b0 32 rfl
theorem dX7_one_69 : decode cX7_one 69 = .ok (.goto 7, 3) := of_row (r := (69, .goto 7, 3)) DX7_one_b0 33 rfl
theorem dX7_one_72 : decode cX7_one 72 = .ok (.aload_n 0, 1) := of_row (r := (72, .aload_n 0, 1)) DX7_one_b0 34 rfl
theorem dX7_one_73 : decode cX7_one 73 = .ok (.invokevirtual 211, 3) := of_row (r := (73, .invokevirtual 211, 3)) DX7_one_b0 35 rfl
theorem dX7_one_76 : decode cX7_one 76 = .ok (.return_, 1) := of_row (r := (76, .return_, 1)) DX7_one_b0 36 rfl
set_option maxRecDepth 20000 in
theorem DX7_isText_b0 : ([(0, .iload_n 1, 1), (1, .iconst 0, 1), (2, .aload_n 0, 1), (3, .getfield 220, 3), (6, .iconst 1, 1), (7, .isub, 1), (8, .invokestatic 132, 3), (11, .ireturn, 1)] : List (Nat × Instr × Nat)).all (fun r => decide (decode cX7_isText r.1 = .ok r.2)) = true := by decide +kernel
theorem dX7_isText_0 : decode cX7_isText 0 = .ok (.iload_n 1, 1) := of_row (r := (0, .iload_n 1, 1)) DX7_isText_b0 0 rfl
theorem dX7_isText_1 : decode cX7_isText 1 = .ok (.iconst 0, 1) := of_row (r := (1, .iconst 0, 1)) DX7_isText_b0 1 rfl
theorem dX7_isText_2 : decode cX7_isText 2 = .ok (.aload_n 0, 1) := of_row (r := (2, .aload_n 0, 1)) DX7_isText_b0 2 rfl
theorem dX7_isText_3 : decode cX7_isText 3 = .ok (.getfield 220, 3) := of_row (r := (3, .getfield 220, 3)) DX7_isText_b0 3 rfl
theorem dX7_isText_6 : decode cX7_isText 6 = .ok (.iconst 1, 1) := of_row (r := (6, .iconst 1, 1)) DX7_isText_b0 4 rfl
theorem dX7_isText_7 : decode cX7_isText 7 = .ok (.isub, 1) := of_row (r := (7, .isub, 1)) DX7_isText_b0 5 rfl
theorem dX7_isText_8 : decode cX7_isText 8 = .ok (.invokestatic 132, 3) := of_row (r := (8, .invokestatic 132, 3)) DX7_isText_b0 6 rfl
theorem dX7_isText_11 : decode cX7_isText 11 = .ok (.ireturn, 1) := of_row (r := (11, .ireturn, 1)) DX7_isText_b0 7 rfl
set_option maxRecDepth 20000 in
theorem DX7_statements_b0 : ([(0, .aload_n 0, 1), (1, .iload_n 1, 1), (2, .invokevirtual 264, 3), (5, .ifCond .eq 12, 3), (8, .aload_n 0, 1), (9, .getfield 13, 3), (12, .iload_n 1, 1), (13, .iaload, 1), (14, .goto 4, 3), (17, .iconst (-1), 1), (18, .ireturn, 1)] : List (Nat × Instr × Nat)).all (fun r => decide (decode cX7_statements r.1 = .ok r.2)) = true := by decide +kernel
theorem dX7_statements_0 : decode cX7_statements 0 = .ok (.aload_n 0, 1) := of_row (r := (0, .aload_n 0, 1)) DX7_statements_b0 0 rfl
theorem dX7_statements_1 : decode cX7_statements 1 = .ok (.iload_n 1, 1) := of_row (r := (1, .iload_n 1, 1)) DX7_statements_b0 1 rfl
theorem dX7_statements_2 : decode cX7_statements 2 = .ok (.invokevirtual 264, 3) := of_row (r := (2, .invokevirtual 264, 3)) DX7_statements_b0 2 rfl
theorem dX7_statements_5 : decode cX7_statements 5 = .ok (.ifCond .eq 12, 3) := of_row (r := (5, .ifCond .eq 12, 3)) DX7_statements_b0 3 rfl
theorem dX7_statements_8 : decode cX7_statements 8 = .ok (.aload_n 0, 1) := of_row (r := (8, .aload_n 0, 1)) DX7_statements_b0 4 rfl
theorem dX7_statements_9 : decode cX7_statements 9 = .ok (.getfield 13, 3) := of_row (r := (9, .getfield 13, 3)) DX7_statements_b0 5 rfl
theorem dX7_statements_12 : decode cX7_statements 12 = .ok (.iload_n 1, 1) := of_row (r := (12, .iload_n 1, 1)) DX7_statements_b0 6 rfl
theorem dX7_statements_13 : decode cX7_statements 13 = .ok (.iaload, 1) := of_row (r := (13, .iaload, 1)) DX7_statements_b0 7 rfl
theorem dX7_statements_14 : decode cX7_statements 14 = .ok (.goto 4, 3) := of_row (r := (14, .goto 4, 3)) DX7_statements_b0 8 rfl
theorem dX7_statements_17 : decode cX7_statements 17 = .ok (.iconst (-1), 1) := of_row (r := (17, .iconst (-1), 1)) DX7_statements_b0 9 rfl
theorem dX7_statements_18 : decode cX7_statements 18 = .ok (.ireturn, 1) := of_row (r := (18, .ireturn, 1)) DX7_statements_b0 10 rfl
set_option maxRecDepth 20000 in
theorem DX7_force_b0 : ([(0, .aload_n 0, 1), (1, .iload_n 1, 1), (2, .invokevirtual 264, 3), (5, .ifCond .eq 17, 3), (8, .iload_n 2, 1), (9, .aload_n 0, 1), (10, .getfield 267, 3), (13, .sipush 1000, 3), (16, .invokestatic 132, 3), (19, .ifCond .ne 5, 3), (22, .iconst (-1), 1), (23, .ireturn, 1), (24, .aload_n 0, 1), (25, .getfield 270, 3), (28, .bipush 40, 2), (30, .if_icmp .ne 6, 3), (33, .bipush (-3), 2), (35, .ireturn, 1), (36, .aload_n 0, 1), (37, .getfield 38, 3), (40, .aload_n 0, 1), (41, .getfield 270, 3), (44, .iload_n 1, 1), (45, .iastore, 1), (46, .aload_n 0, 1), (47, .getfield 41, 3), (50, .aload_n 0, 1), (51, .getfield 270, 3), (54, .iload_n 2, 1), (55, .iastore, 1), (56, .aload_n 0, 1), (57, .dup, 1), (58, .getfield 270, 3), (61, .iconst 1, 1), (62, .iadd, 1), (63, .putfield 270, 3), (66, .iconst 1, 1), (67, .ireturn, 1)] : List (Nat × Instr × Nat)).all (fun r => decide (decode cX7_force r.1 = .ok r.2)) = true := by decide +kernel
theorem dX7_force_0 : decode cX7_force 0 = .ok (.aload_n 0, 1) := of_row (r := (0, .aload_n 0, 1)) DX7_force_b0 0 rfl
theorem dX7_force_1 : decode cX7_force 1 = .ok (.iload_n 1, 1) := of_row (r := (1, .iload_n 1, 1)) DX7_force_b0 1 rfl
theorem dX7_force_2 : decode cX7_force 2 = .ok (.invokevirtual 264, 3) := of_row (r := (2, .invokevirtual 264, 3)) DX7_force_b0 2 rfl
theorem dX7_force_5 : decode cX7_force 5 = .ok (.ifCond .eq 17, 3) := of_row (r := (5, .ifCond .eq 17, 3)) DX7_force_b0 3 rfl
theorem dX7_force_8 : decode cX7_force 8 = .ok (.iload_n 2, 1) := of_row (r := (8, .iload_n 2, 1)) DX7_force_b0 4 rfl
theorem dX7_force_9 : decode cX7_force 9 = .ok (.aload_n 0, 1) := of_row (r := (9, .aload_n 0, 1)) DX7_force_b0 5 rfl
theorem dX7_force_10 : decode cX7_force 10 = .ok (.getfield 267, 3) := of_row (r := (10, .getfield 267, 3)) DX7_force_b0 6 rfl
theorem dX7_force_13 : decode cX7_force 13 = .ok (.sipush 1000, 3) := of_row (r := (13, .sipush 1000, 3)) DX7_force_b0 7 rfl
theorem dX7_force_16 : decode cX7_force 16 = .ok (.invokestatic 132, 3) := of_row (r := (16, .invokestatic 132, 3)) DX7_force_b0 8 rfl
theorem dX7_force_19 : decode cX7_force 19 = .ok (.ifCond .ne 5, 3) := of_row (r := (19, .ifCond .ne 5, 3)) DX7_force_b0 9 rfl
theorem dX7_force_22 : decode cX7_force 22 = .ok (.iconst (-1), 1) := of_row (r := (22, .iconst (-1), 1)) DX7_force_b0 10 rfl
theorem dX7_force_23 : decode cX7_force 23 = .ok (.ireturn, 1) := of_row (r := (23, .ireturn, 1)) DX7_force_b0 11 rfl
theorem dX7_force_24 : decode cX7_force 24 = .ok (.aload_n 0, 1) := of_row (r := (24, .aload_n 0, 1)) DX7_force_b0 12 rfl
theorem dX7_force_25 : decode cX7_force 25 = .ok (.getfield 270, 3) := of_row (r := (25, .getfield 270, 3)) DX7_force_b0 13 rfl
theorem dX7_force_28 : decode cX7_force 28 = .ok (.bipush 40, 2) := of_row (r := (28, .bipush 40, 2)) DX7_force_b0 14 rfl
theorem dX7_force_30 : decode cX7_force 30 = .ok (.if_icmp .ne 6, 3) := of_row (r := (30, .if_icmp .ne 6, 3)) DX7_force_b0 15 rfl
theorem dX7_force_33 : decode cX7_force 33 = .ok (.bipush (-3), 2) := of_row (r := (33, .bipush (-3), 2)) DX7_force_b0 16 rfl
theorem dX7_force_35 : decode cX7_force 35 = .ok (.ireturn, 1) := of_row (r := (35, .ireturn, 1)) DX7_force_b0 17 rfl
theorem dX7_force_36 : decode cX7_force 36 = .ok (.aload_n 0, 1) := of_row (r := (36, .aload_n 0, 1)) DX7_force_b0 18 rfl
theorem dX7_force_37 : decode cX7_force 37 = .ok (.getfield 38, 3) := of_row (r := (37, .getfield 38, 3)) DX7_force_b0 19 rfl
theorem dX7_force_40 : decode cX7_force 40 = .ok (.aload_n 0, 1) := of_row (r := (40, .aload_n 0, 1)) DX7_force_b0 20 rfl
theorem dX7_force_41 : decode cX7_force 41 = .ok (.getfield 270, 3) := of_row (r := (41, .getfield 270, 3)) DX7_force_b0 21 rfl
theorem dX7_force_44 : decode cX7_force 44 = .ok (.iload_n 1, 1) := of_row (r := (44, .iload_n 1, 1)) DX7_force_b0 22 rfl
theorem dX7_force_45 : decode cX7_force 45 = .ok (.iastore, 1) := of_row (r := (45, .iastore, 1)) DX7_force_b0 23 rfl
theorem dX7_force_46 : decode cX7_force 46 = .ok (.aload_n 0, 1) := of_row (r := (46, .aload_n 0, 1)) DX7_force_b0 24 rfl
theorem dX7_force_47 : decode cX7_force 47 = .ok (.getfield 41, 3) := of_row (r := (47, .getfield 41, 3)) DX7_force_b0 25 rfl
theorem dX7_force_50 : decode cX7_force 50 = .ok (.aload_n 0, 1) := of_row (r := (50, .aload_n 0, 1)) DX7_force_b0 26 rfl
theorem dX7_force_51 : decode cX7_force 51 = .ok (.getfield 270, 3) := of_row (r := (51, .getfield 270, 3)) DX7_force_b0 27 rfl
theorem dX7_force_54 : decode cX7_force 54 = .ok (.iload_n 2, 1) := of_row (r := (54, .iload_n 2, 1)) DX7_force_b0 28 rfl
theorem dX7_force_55 : decode cX7_force 55 = .ok (.iastore, 1) := of_row (r := (55, .iastore, 1)) DX7_force_b0 29 rfl
theorem dX7_force_56 : decode cX7_force 56 = .ok (.aload_n 0, 1) := of_row (r := (56, .aload_n 0, 1)) DX7_force_b0 30 rfl
theorem dX7_force_57 : decode cX7_force 57 = .ok (.dup, 1) := of_row (r := (57, .dup, 1)) DX7_force_b0 31 rfl
theorem dX7_force_58 : decode cX7_force 58 = .ok (.getfield 270, 3) := of_row (r := (58, .getfield 270, 3)) DX7_force_b0 32 rfl
theorem dX7_force_61 : decode cX7_force 61 = .ok (.iconst 1, 1) := of_row (r := (61, .iconst 1, 1)) DX7_force_b0 33 rfl
theorem dX7_force_62 : decode cX7_force 62 = .ok (.iadd, 1) := of_row (r := (62, .iadd, 1)) DX7_force_b0 34 rfl
theorem dX7_force_63 : decode cX7_force 63 = .ok (.putfield 270, 3) := of_row (r := (63, .putfield 270, 3)) DX7_force_b0 35 rfl
theorem dX7_force_66 : decode cX7_force 66 = .ok (.iconst 1, 1) := of_row (r := (66, .iconst 1, 1)) DX7_force_b0 36 rfl
theorem dX7_force_67 : decode cX7_force 67 = .ok (.ireturn, 1) := of_row (r := (67, .ireturn, 1)) DX7_force_b0 37 rfl
set_option maxRecDepth 20000 in
theorem DX7_forceAt_b0 : ([(0, .aload_n 0, 1), (1, .getfield 270, 3), (4, .iconst 1, 1), (5, .isub, 1), (6, .istore_n 2, 1), (7, .iload_n 2, 1), (8, .ifCond .lt 26, 3), (11, .aload_n 0, 1), (12, .getfield 41, 3), (15, .iload_n 2, 1), (16, .iaload, 1), (17, .iload_n 1, 1), (18, .if_icmp .gt 10, 3), (21, .aload_n 0, 1), (22, .getfield 38, 3), (25, .iload_n 2, 1), (26, .iaload, 1), (27, .ireturn, 1), (28, .iinc 2 (-1), 3), (31, .goto (-24), 3), (34, .iconst (-1), 1), (35, .ireturn, 1)] : List (Nat × Instr × Nat)).all (fun r => decide (decode cX7_forceAt r.1 = .ok r.2)) = true := by decide +kernel
theorem dX7_forceAt_0 : decode cX7_forceAt 0 = .ok (.aload_n 0, 1) := of_row (r := (0, .aload_n 0, 1)) DX7_forceAt_b0 0 rfl
theorem dX7_forceAt_1 : decode cX7_forceAt 1 = .ok (.getfield 270, 3) := of_row (r := (1, .getfield 270, 3)) DX7_forceAt_b0 1 rfl
theorem dX7_forceAt_4 : decode cX7_forceAt 4 = .ok (.iconst 1, 1) := of_row (r := (4, .iconst 1, 1)) DX7_forceAt_b0 2 rfl
theorem dX7_forceAt_5 : decode cX7_forceAt 5 = .ok (.isub, 1) := of_row (r := (5, .isub, 1)) DX7_forceAt_b0 3 rfl
theorem dX7_forceAt_6 : decode cX7_forceAt 6 = .ok (.istore_n 2, 1) := of_row (r := (6, .istore_n 2, 1)) DX7_forceAt_b0 4 rfl
theorem dX7_forceAt_7 : decode cX7_forceAt 7 = .ok (.iload_n 2, 1) := of_row (r := (7, .iload_n 2, 1)) DX7_forceAt_b0 5 rfl
theorem dX7_forceAt_8 : decode cX7_forceAt 8 = .ok (.ifCond .lt 26, 3) := of_row (r := (8, .ifCond .lt 26, 3)) DX7_forceAt_b0 6 rfl
theorem dX7_forceAt_11 : decode cX7_forceAt 11 = .ok (.aload_n 0, 1) := of_row (r := (11, .aload_n 0, 1)) DX7_forceAt_b0 7 rfl
theorem dX7_forceAt_12 : decode cX7_forceAt 12 = .ok (.getfield 41, 3) := of_row (r := (12, .getfield 41, 3)) DX7_forceAt_b0 8 rfl
theorem dX7_forceAt_15 : decode cX7_forceAt 15 = .ok (.iload_n 2, 1) := of_row (r := (15, .iload_n 2, 1)) DX7_forceAt_b0 9 rfl
theorem dX7_forceAt_16 : decode cX7_forceAt 16 = .ok (.iaload, 1) := of_row (r := (16, .iaload, 1)) DX7_forceAt_b0 10 rfl
theorem dX7_forceAt_17 : decode cX7_forceAt 17 = .ok (.iload_n 1, 1) := of_row (r := (17, .iload_n 1, 1)) DX7_forceAt_b0 11 rfl
theorem dX7_forceAt_18 : decode cX7_forceAt 18 = .ok (.if_icmp .gt 10, 3) := of_row (r := (18, .if_icmp .gt 10, 3)) DX7_forceAt_b0 12 rfl
theorem dX7_forceAt_21 : decode cX7_forceAt 21 = .ok (.aload_n 0, 1) := of_row (r := (21, .aload_n 0, 1)) DX7_forceAt_b0 13 rfl
theorem dX7_forceAt_22 : decode cX7_forceAt 22 = .ok (.getfield 38, 3) := of_row (r := (22, .getfield 38, 3)) DX7_forceAt_b0 14 rfl
theorem dX7_forceAt_25 : decode cX7_forceAt 25 = .ok (.iload_n 2, 1) := of_row (r := (25, .iload_n 2, 1)) DX7_forceAt_b0 15 rfl
theorem dX7_forceAt_26 : decode cX7_forceAt 26 = .ok (.iaload, 1) := of_row (r := (26, .iaload, 1)) DX7_forceAt_b0 16 rfl
theorem dX7_forceAt_27 : decode cX7_forceAt 27 = .ok (.ireturn, 1) := of_row (r := (27, .ireturn, 1)) DX7_forceAt_b0 17 rfl
theorem dX7_forceAt_28 : decode cX7_forceAt 28 = .ok (.iinc 2 (-1), 3) := of_row (r := (28, .iinc 2 (-1), 3)) DX7_forceAt_b0 18 rfl
theorem dX7_forceAt_31 : decode cX7_forceAt 31 = .ok (.goto (-24), 3) := of_row (r := (31, .goto (-24), 3)) DX7_forceAt_b0 19 rfl
theorem dX7_forceAt_34 : decode cX7_forceAt 34 = .ok (.iconst (-1), 1) := of_row (r := (34, .iconst (-1), 1)) DX7_forceAt_b0 20 rfl
theorem dX7_forceAt_35 : decode cX7_forceAt 35 = .ok (.ireturn, 1) := of_row (r := (35, .ireturn, 1)) DX7_forceAt_b0 21 rfl
set_option maxRecDepth 20000 in
theorem DX7_inForce_b0 : ([(0, .iload_n 1, 1), (1, .iconst 0, 1), (2, .sipush 1000, 3), (5, .invokestatic 132, 3), (8, .ifCond .eq 11, 3), (11, .aload_n 0, 1), (12, .iload_n 1, 1), (13, .invokevirtual 273, 3), (16, .goto 4, 3), (19, .iconst (-1), 1), (20, .ireturn, 1)] : List (Nat × Instr × Nat)).all (fun r => decide (decode cX7_inForce r.1 = .ok r.2)) = true := by decide +kernel
theorem dX7_inForce_0 : decode cX7_inForce 0 = .ok (.iload_n 1, 1) := of_row (r := (0, .iload_n 1, 1)) DX7_inForce_b0 0 rfl
theorem dX7_inForce_1 : decode cX7_inForce 1 = .ok (.iconst 0, 1) := of_row (r := (1, .iconst 0, 1)) DX7_inForce_b0 1 rfl
theorem dX7_inForce_2 : decode cX7_inForce 2 = .ok (.sipush 1000, 3) := of_row (r := (2, .sipush 1000, 3)) DX7_inForce_b0 2 rfl
theorem dX7_inForce_5 : decode cX7_inForce 5 = .ok (.invokestatic 132, 3) := of_row (r := (5, .invokestatic 132, 3)) DX7_inForce_b0 3 rfl
theorem dX7_inForce_8 : decode cX7_inForce 8 = .ok (.ifCond .eq 11, 3) := of_row (r := (8, .ifCond .eq 11, 3)) DX7_inForce_b0 4 rfl
theorem dX7_inForce_11 : decode cX7_inForce 11 = .ok (.aload_n 0, 1) := of_row (r := (11, .aload_n 0, 1)) DX7_inForce_b0 5 rfl
theorem dX7_inForce_12 : decode cX7_inForce 12 = .ok (.iload_n 1, 1) := of_row (r := (12, .iload_n 1, 1)) DX7_inForce_b0 6 rfl
theorem dX7_inForce_13 : decode cX7_inForce 13 = .ok (.invokevirtual 273, 3) := of_row (r := (13, .invokevirtual 273, 3)) DX7_inForce_b0 7 rfl
theorem dX7_inForce_16 : decode cX7_inForce 16 = .ok (.goto 4, 3) := of_row (r := (16, .goto 4, 3)) DX7_inForce_b0 8 rfl
theorem dX7_inForce_19 : decode cX7_inForce 19 = .ok (.iconst (-1), 1) := of_row (r := (19, .iconst (-1), 1)) DX7_inForce_b0 9 rfl
theorem dX7_inForce_20 : decode cX7_inForce 20 = .ok (.ireturn, 1) := of_row (r := (20, .ireturn, 1)) DX7_inForce_b0 10 rfl
set_option maxRecDepth 20000 in
theorem DX7_isPerson_b0 : ([(0, .iload_n 0, 1), (1, .iconst 0, 1), (2, .bipush 15, 2), (4, .invokestatic 132, 3), (7, .ireturn, 1)] : List (Nat × Instr × Nat)).all (fun r => decide (decode cX7_isPerson r.1 = .ok r.2)) = true := by decide +kernel
theorem dX7_isPerson_0 : decode cX7_isPerson 0 = .ok (.iload_n 0, 1) := of_row (r := (0, .iload_n 0, 1)) DX7_isPerson_b0 0 rfl
theorem dX7_isPerson_1 : decode cX7_isPerson 1 = .ok (.iconst 0, 1) := of_row (r := (1, .iconst 0, 1)) DX7_isPerson_b0 1 rfl
theorem dX7_isPerson_2 : decode cX7_isPerson 2 = .ok (.bipush 15, 2) := of_row (r := (2, .bipush 15, 2)) DX7_isPerson_b0 2 rfl
theorem dX7_isPerson_4 : decode cX7_isPerson 4 = .ok (.invokestatic 132, 3) := of_row (r := (4, .invokestatic 132, 3)) DX7_isPerson_b0 3 rfl
theorem dX7_isPerson_7 : decode cX7_isPerson 7 = .ok (.ireturn, 1) := of_row (r := (7, .ireturn, 1)) DX7_isPerson_b0 4 rfl
set_option maxRecDepth 20000 in
theorem DX7_isDebt_b0 : ([(0, .iload_n 1, 1), (1, .iconst 0, 1), (2, .aload_n 0, 1), (3, .getfield 277, 3), (6, .iconst 1, 1), (7, .isub, 1), (8, .invokestatic 132, 3), (11, .ireturn, 1)] : List (Nat × Instr × Nat)).all (fun r => decide (decode cX7_isDebt r.1 = .ok r.2)) = true := by decide +kernel
theorem dX7_isDebt_0 : decode cX7_isDebt 0 = .ok (.iload_n 1, 1) := of_row (r := (0, .iload_n 1, 1)) DX7_isDebt_b0 0 rfl
theorem dX7_isDebt_1 : decode cX7_isDebt 1 = .ok (.iconst 0, 1) := of_row (r := (1, .iconst 0, 1)) DX7_isDebt_b0 1 rfl
theorem dX7_isDebt_2 : decode cX7_isDebt 2 = .ok (.aload_n 0, 1) := of_row (r := (2, .aload_n 0, 1)) DX7_isDebt_b0 2 rfl
theorem dX7_isDebt_3 : decode cX7_isDebt 3 = .ok (.getfield 277, 3) := of_row (r := (3, .getfield 277, 3)) DX7_isDebt_b0 3 rfl
theorem dX7_isDebt_6 : decode cX7_isDebt 6 = .ok (.iconst 1, 1) := of_row (r := (6, .iconst 1, 1)) DX7_isDebt_b0 4 rfl
theorem dX7_isDebt_7 : decode cX7_isDebt 7 = .ok (.isub, 1) := of_row (r := (7, .isub, 1)) DX7_isDebt_b0 5 rfl
theorem dX7_isDebt_8 : decode cX7_isDebt 8 = .ok (.invokestatic 132, 3) := of_row (r := (8, .invokestatic 132, 3)) DX7_isDebt_b0 6 rfl
theorem dX7_isDebt_11 : decode cX7_isDebt 11 = .ok (.ireturn, 1) := of_row (r := (11, .ireturn, 1)) DX7_isDebt_b0 7 rfl
set_option maxRecDepth 20000 in
theorem DX7_shire_b0 : ([(0, .iload_n 1, 1), (1, .iconst 0, 1), (2, .bipush 7, 2), (4, .invokestatic 132, 3), (7, .ifCond .eq 26, 3), (10, .iload_n 2, 1), (11, .iconst 0, 1), (12, .ldc_w 280, 3), (15, .invokestatic 132, 3), (18, .ifCond .eq 15, 3), (21, .iload_n 3, 1), (22, .iconst (-1), 1), (23, .if_icmp .eq 12, 3), (26, .iload_n 3, 1), (27, .invokestatic 281, 3), (30, .ifCond .ne 5, 3), (33, .iconst (-1), 1), (34, .ireturn, 1), (35, .aload_n 0, 1), (36, .getfield 44, 3), (39, .iload_n 1, 1), (40, .iload_n 2, 1), (41, .iastore, 1), (42, .aload_n 0, 1), (43, .getfield 47, 3), (46, .iload_n 1, 1), (47, .iload_n 3, 1), (48, .iastore, 1), (49, .iconst 1, 1), (50, .ireturn, 1)] : List (Nat × Instr × Nat)).all (fun r => decide (decode cX7_shire r.1 = .ok r.2)) = true := by decide +kernel
theorem dX7_shire_0 : decode cX7_shire 0 = .ok (.iload_n 1, 1) := of_row (r := (0, .iload_n 1, 1)) DX7_shire_b0 0 rfl
theorem dX7_shire_1 : decode cX7_shire 1 = .ok (.iconst 0, 1) := of_row (r := (1, .iconst 0, 1)) DX7_shire_b0 1 rfl
theorem dX7_shire_2 : decode cX7_shire 2 = .ok (.bipush 7, 2) := of_row (r := (2, .bipush 7, 2)) DX7_shire_b0 2 rfl
theorem dX7_shire_4 : decode cX7_shire 4 = .ok (.invokestatic 132, 3) := of_row (r := (4, .invokestatic 132, 3)) DX7_shire_b0 3 rfl
theorem dX7_shire_7 : decode cX7_shire 7 = .ok (.ifCond .eq 26, 3) := of_row (r := (7, .ifCond .eq 26, 3)) DX7_shire_b0 4 rfl
theorem dX7_shire_10 : decode cX7_shire 10 = .ok (.iload_n 2, 1) := of_row (r := (10, .iload_n 2, 1)) DX7_shire_b0 5 rfl
theorem dX7_shire_11 : decode cX7_shire 11 = .ok (.iconst 0, 1) := of_row (r := (11, .iconst 0, 1)) DX7_shire_b0 6 rfl
theorem dX7_shire_12 : decode cX7_shire 12 = .ok (.ldc_w 280, 3) := of_row (r := (12, .ldc_w 280, 3)) DX7_shire_b0 7 rfl
theorem dX7_shire_15 : decode cX7_shire 15 = .ok (.invokestatic 132, 3) := of_row (r := (15, .invokestatic 132, 3)) DX7_shire_b0 8 rfl
theorem dX7_shire_18 : decode cX7_shire 18 = .ok (.ifCond .eq 15, 3) := of_row (r := (18, .ifCond .eq 15, 3)) DX7_shire_b0 9 rfl
theorem dX7_shire_21 : decode cX7_shire 21 = .ok (.iload_n 3, 1) := of_row (r := (21, .iload_n 3, 1)) DX7_shire_b0 10 rfl
theorem dX7_shire_22 : decode cX7_shire 22 = .ok (.iconst (-1), 1) := of_row (r := (22, .iconst (-1), 1)) DX7_shire_b0 11 rfl
theorem dX7_shire_23 : decode cX7_shire 23 = .ok (.if_icmp .eq 12, 3) := of_row (r := (23, .if_icmp .eq 12, 3)) DX7_shire_b0 12 rfl
theorem dX7_shire_26 : decode cX7_shire 26 = .ok (.iload_n 3, 1) := of_row (r := (26, .iload_n 3, 1)) DX7_shire_b0 13 rfl
theorem dX7_shire_27 : decode cX7_shire 27 = .ok (.invokestatic 281, 3) := of_row (r := (27, .invokestatic 281, 3)) DX7_shire_b0 14 rfl
theorem dX7_shire_30 : decode cX7_shire 30 = .ok (.ifCond .ne 5, 3) := of_row (r := (30, .ifCond .ne 5, 3)) DX7_shire_b0 15 rfl
theorem dX7_shire_33 : decode cX7_shire 33 = .ok (.iconst (-1), 1) := of_row (r := (33, .iconst (-1), 1)) DX7_shire_b0 16 rfl
theorem dX7_shire_34 : decode cX7_shire 34 = .ok (.ireturn, 1) := of_row (r := (34, .ireturn, 1)) DX7_shire_b0 17 rfl
theorem dX7_shire_35 : decode cX7_shire 35 = .ok (.aload_n 0, 1) := of_row (r := (35, .aload_n 0, 1)) DX7_shire_b0 18 rfl
theorem dX7_shire_36 : decode cX7_shire 36 = .ok (.getfield 44, 3) := of_row (r := (36, .getfield 44, 3)) DX7_shire_b0 19 rfl
theorem dX7_shire_39 : decode cX7_shire 39 = .ok (.iload_n 1, 1) := of_row (r := (39, .iload_n 1, 1)) DX7_shire_b0 20 rfl
theorem dX7_shire_40 : decode cX7_shire 40 = .ok (.iload_n 2, 1) := of_row (r := (40, .iload_n 2, 1)) DX7_shire_b0 21 rfl
theorem dX7_shire_41 : decode cX7_shire 41 = .ok (.iastore, 1) := of_row (r := (41, .iastore, 1)) DX7_shire_b0 22 rfl
theorem dX7_shire_42 : decode cX7_shire 42 = .ok (.aload_n 0, 1) := of_row (r := (42, .aload_n 0, 1)) DX7_shire_b0 23 rfl
theorem dX7_shire_43 : decode cX7_shire 43 = .ok (.getfield 47, 3) := of_row (r := (43, .getfield 47, 3)) DX7_shire_b0 24 rfl
theorem dX7_shire_46 : decode cX7_shire 46 = .ok (.iload_n 1, 1) := of_row (r := (46, .iload_n 1, 1)) DX7_shire_b0 25 rfl
theorem dX7_shire_47 : decode cX7_shire 47 = .ok (.iload_n 3, 1) := of_row (r := (47, .iload_n 3, 1)) DX7_shire_b0 26 rfl
theorem dX7_shire_48 : decode cX7_shire 48 = .ok (.iastore, 1) := of_row (r := (48, .iastore, 1)) DX7_shire_b0 27 rfl
theorem dX7_shire_49 : decode cX7_shire 49 = .ok (.iconst 1, 1) := of_row (r := (49, .iconst 1, 1)) DX7_shire_b0 28 rfl
theorem dX7_shire_50 : decode cX7_shire 50 = .ok (.ireturn, 1) := of_row (r := (50, .ireturn, 1)) DX7_shire_b0 29 rfl
set_option maxRecDepth 20000 in
theorem DX7_owes_b0 : ([(0, .aload_n 0, 1), (1, .getfield 277, 3), (4, .istore 5, 2), (6, .aload_n 0, 1), (7, .getfield 50, 3), (10, .iload 5, 2), (12, .iload_n 1, 1), (13, .iastore, 1), (14, .aload_n 0, 1), (15, .getfield 53, 3), (18, .iload 5, 2), (20, .iload_n 2, 1), (21, .iastore, 1), (22, .aload_n 0, 1), (23, .getfield 56, 3), (26, .iload 5, 2), (28, .iload_n 3, 1), (29, .iastore, 1), (30, .aload_n 0, 1), (31, .getfield 59, 3), (34, .iload 5, 2), (36, .iload_n 3, 1), (37, .iastore, 1), (38, .aload_n 0, 1), (39, .getfield 62, 3), (42, .iload 5, 2), (44, .aload_n 0, 1), (45, .getfield 267, 3), (48, .iastore, 1), (49, .aload_n 0, 1), (50, .getfield 65, 3), (53, .iload 5, 2), (55, .iload 4, 2), (57, .iastore, 1), (58, .aload_n 0, 1), (59, .getfield 68, 3), (62, .iload 5, 2), (64, .iconst 0, 1), (65, .iastore, 1), (66, .aload_n 0, 1), (67, .dup, 1), (68, .getfield 277, 3), (71, .iconst 1, 1), (72, .iadd, 1), (73, .putfield 277, 3), (76, .iload 5, 2), (78, .ireturn, 1)] : List (Nat × Instr × Nat)).all (fun r => decide (decode cX7_owes r.1 = .ok r.2)) = true := by decide +kernel
theorem dX7_owes_0 : decode cX7_owes 0 = .ok (.aload_n 0, 1) := of_row (r := (0, .aload_n 0, 1)) DX7_owes_b0 0 rfl
theorem dX7_owes_1 : decode cX7_owes 1 = .ok (.getfield 277, 3) := of_row (r := (1, .getfield 277, 3)) DX7_owes_b0 1 rfl
theorem dX7_owes_4 : decode cX7_owes 4 = .ok (.istore 5, 2) := of_row (r := (4, .istore 5, 2)) DX7_owes_b0 2 rfl
theorem dX7_owes_6 : decode cX7_owes 6 = .ok (.aload_n 0, 1) := of_row (r := (6, .aload_n 0, 1)) DX7_owes_b0 3 rfl
theorem dX7_owes_7 : decode cX7_owes 7 = .ok (.getfield 50, 3) := of_row (r := (7, .getfield 50, 3)) DX7_owes_b0 4 rfl
theorem dX7_owes_10 : decode cX7_owes 10 = .ok (.iload 5, 2) := of_row (r := (10, .iload 5, 2)) DX7_owes_b0 5 rfl
theorem dX7_owes_12 : decode cX7_owes 12 = .ok (.iload_n 1, 1) := of_row (r := (12, .iload_n 1, 1)) DX7_owes_b0 6 rfl
theorem dX7_owes_13 : decode cX7_owes 13 = .ok (.iastore, 1) := of_row (r := (13, .iastore, 1)) DX7_owes_b0 7 rfl
theorem dX7_owes_14 : decode cX7_owes 14 = .ok (.aload_n 0, 1) := of_row (r := (14, .aload_n 0, 1)) DX7_owes_b0 8 rfl
theorem dX7_owes_15 : decode cX7_owes 15 = .ok (.getfield 53, 3) := of_row (r := (15, .getfield 53, 3)) DX7_owes_b0 9 rfl
theorem dX7_owes_18 : decode cX7_owes 18 = .ok (.iload 5, 2) := of_row (r := (18, .iload 5, 2)) DX7_owes_b0 10 rfl
theorem dX7_owes_20 : decode cX7_owes 20 = .ok (.iload_n 2, 1) := of_row (r := (20, .iload_n 2, 1)) DX7_owes_b0 11 rfl
theorem dX7_owes_21 : decode cX7_owes 21 = .ok (.iastore, 1) := of_row (r := (21, .iastore, 1)) DX7_owes_b0 12 rfl
theorem dX7_owes_22 : decode cX7_owes 22 = .ok (.aload_n 0, 1) := of_row (r := (22, .aload_n 0, 1)) DX7_owes_b0 13 rfl
theorem dX7_owes_23 : decode cX7_owes 23 = .ok (.getfield 56, 3) := of_row (r := (23, .getfield 56, 3)) DX7_owes_b0 14 rfl
theorem dX7_owes_26 : decode cX7_owes 26 = .ok (.iload 5, 2) := of_row (r := (26, .iload 5, 2)) DX7_owes_b0 15 rfl
theorem dX7_owes_28 : decode cX7_owes 28 = .ok (.iload_n 3, 1) := of_row (r := (28, .iload_n 3, 1)) DX7_owes_b0 16 rfl
theorem dX7_owes_29 : decode cX7_owes 29 = .ok (.iastore, 1) := of_row (r := (29, .iastore, 1)) DX7_owes_b0 17 rfl
theorem dX7_owes_30 : decode cX7_owes 30 = .ok (.aload_n 0, 1) := of_row (r := (30, .aload_n 0, 1)) DX7_owes_b0 18 rfl
theorem dX7_owes_31 : decode cX7_owes 31 = .ok (.getfield 59, 3) := of_row (r := (31, .getfield 59, 3)) DX7_owes_b0 19 rfl
theorem dX7_owes_34 : decode cX7_owes 34 = .ok (.iload 5, 2) := of_row (r := (34, .iload 5, 2)) DX7_owes_b0 20 rfl
theorem dX7_owes_36 : decode cX7_owes 36 = .ok (.iload_n 3, 1) := of_row (r := (36, .iload_n 3, 1)) DX7_owes_b0 21 rfl
theorem dX7_owes_37 : decode cX7_owes 37 = .ok (.iastore, 1) := of_row (r := (37, .iastore, 1)) DX7_owes_b0 22 rfl
theorem dX7_owes_38 : decode cX7_owes 38 = .ok (.aload_n 0, 1) := of_row (r := (38, .aload_n 0, 1)) DX7_owes_b0 23 rfl
theorem dX7_owes_39 : decode cX7_owes 39 = .ok (.getfield 62, 3) := of_row (r := (39, .getfield 62, 3)) DX7_owes_b0 24 rfl
theorem dX7_owes_42 : decode cX7_owes 42 = .ok (.iload 5, 2) := of_row (r := (42, .iload 5, 2)) DX7_owes_b0 25 rfl
theorem dX7_owes_44 : decode cX7_owes 44 = .ok (.aload_n 0, 1) := of_row (r := (44, .aload_n 0, 1)) DX7_owes_b0 26 rfl
theorem dX7_owes_45 : decode cX7_owes 45 = .ok (.getfield 267, 3) := of_row (r := (45, .getfield 267, 3)) DX7_owes_b0 27 rfl
theorem dX7_owes_48 : decode cX7_owes 48 = .ok (.iastore, 1) := of_row (r := (48, .iastore, 1)) DX7_owes_b0 28 rfl
theorem dX7_owes_49 : decode cX7_owes 49 = .ok (.aload_n 0, 1) := of_row (r := (49, .aload_n 0, 1)) DX7_owes_b0 29 rfl
theorem dX7_owes_50 : decode cX7_owes 50 = .ok (.getfield 65, 3) := of_row (r := (50, .getfield 65, 3)) DX7_owes_b0 30 rfl
theorem dX7_owes_53 : decode cX7_owes 53 = .ok (.iload 5, 2) := of_row (r := (53, .iload 5, 2)) DX7_owes_b0 31 rfl
theorem dX7_owes_55 : decode cX7_owes 55 = .ok (.iload 4, 2) := of_row (r := (55, .iload 4, 2)) DX7_owes_b0 32 rfl
theorem dX7_owes_57 : decode cX7_owes 57 = .ok (.iastore, 1) := of_row (r := (57, .iastore, 1)) DX7_owes_b0 33 rfl
theorem dX7_owes_58 : decode cX7_owes 58 = .ok (.aload_n 0, 1) := of_row (r := (58, .aload_n 0, 1)) DX7_owes_b0 34 rfl
theorem dX7_owes_59 : decode cX7_owes 59 = .ok (.getfield 68, 3) := of_row (r := (59, .getfield 68, 3)) DX7_owes_b0 35 rfl
theorem dX7_owes_62 : decode cX7_owes 62 = .ok (.iload 5, 2) := of_row (r := (62, .iload 5, 2)) DX7_owes_b0 36 rfl
theorem dX7_owes_64 : decode cX7_owes 64 = .ok (.iconst 0, 1) := of_row (r := (64, .iconst 0, 1)) DX7_owes_b0 37 rfl
theorem dX7_owes_65 : decode cX7_owes 65 = .ok (.iastore, 1) := of_row (r := (65, .iastore, 1)) DX7_owes_b0 38 rfl
theorem dX7_owes_66 : decode cX7_owes 66 = .ok (.aload_n 0, 1) := of_row (r := (66, .aload_n 0, 1)) DX7_owes_b0 39 rfl
theorem dX7_owes_67 : decode cX7_owes 67 = .ok (.dup, 1) := of_row (r := (67, .dup, 1)) DX7_owes_b0 40 rfl
theorem dX7_owes_68 : decode cX7_owes 68 = .ok (.getfield 277, 3) := of_row (r := (68, .getfield 277, 3)) DX7_owes_b0 41 rfl
theorem dX7_owes_71 : decode cX7_owes 71 = .ok (.iconst 1, 1) := of_row (r := (71, .iconst 1, 1)) DX7_owes_b0 42 rfl
theorem dX7_owes_72 : decode cX7_owes 72 = .ok (.iadd, 1) := of_row (r := (72, .iadd, 1)) DX7_owes_b0 43 rfl
theorem dX7_owes_73 : decode cX7_owes 73 = .ok (.putfield 277, 3) := of_row (r := (73, .putfield 277, 3)) DX7_owes_b0 44 rfl
theorem dX7_owes_76 : decode cX7_owes 76 = .ok (.iload 5, 2) := of_row (r := (76, .iload 5, 2)) DX7_owes_b0 45 rfl
theorem dX7_owes_78 : decode cX7_owes 78 = .ok (.ireturn, 1) := of_row (r := (78, .ireturn, 1)) DX7_owes_b0 46 rfl
set_option maxRecDepth 20000 in
theorem DX7_debt_b0 : ([(0, .iload_n 1, 1), (1, .invokestatic 281, 3), (4, .ifCond .eq 23, 3), (7, .iload_n 2, 1), (8, .iconst 1, 1), (9, .iconst 3, 1), (10, .invokestatic 132, 3), (13, .ifCond .eq 14, 3), (16, .iload_n 3, 1), (17, .iconst 1, 1), (18, .ldc_w 284, 3), (21, .invokestatic 132, 3), (24, .ifCond .ne 5, 3), (27, .iconst (-1), 1), (28, .ireturn, 1), (29, .iload_n 2, 1), (30, .iconst 3, 1), (31, .if_icmp .ne 20, 3), (34, .iload 4, 2), (36, .invokestatic 281, 3), (39, .ifCond .eq 18, 3), (42, .iload 4, 2), (44, .iload_n 1, 1), (45, .if_icmp .ne 14, 3), (48, .goto 9, 3), (51, .iload 4, 2), (53, .iconst (-1), 1), (54, .if_icmp .eq 5, 3), (57, .iconst (-1), 1), (58, .ireturn, 1), (59, .aload_n 0, 1), (60, .getfield 277, 3), (63, .sipush 400, 3), (66, .if_icmp .ne 8, 3), (69, .bipush (-3), 2), (71, .goto 12, 3), (74, .aload_n 0, 1), (75, .iload_n 1, 1), (76, .iload_n 2, 1), (77, .iload_n 3, 1), (78, .iload 4, 2), (80, .invokevirtual 285, 3), (83, .ireturn, 1)] : List (Nat × Instr × Nat)).all (fun r => decide (decode cX7_debt r.1 = .ok r.2)) = true := by decide +kernel
theorem dX7_debt_0 : decode cX7_debt 0 = .ok (.iload_n 1, 1) := of_row (r := (0, .iload_n 1, 1)) DX7_debt_b0 0 rfl
theorem dX7_debt_1 : decode cX7_debt 1 = .ok (.invokestatic 281, 3) := of_row (r := (1, .invokestatic 281, 3)) DX7_debt_b0 1 rfl
theorem dX7_debt_4 : decode cX7_debt 4 = .ok (.ifCond .eq 23, 3) := of_row (r := (4, .ifCond .eq 23, 3)) DX7_debt_b0 2 rfl
theorem dX7_debt_7 : decode cX7_debt 7 = .ok (.iload_n 2, 1) := of_row (r := (7, .iload_n 2, 1)) DX7_debt_b0 3 rfl
theorem dX7_debt_8 : decode cX7_debt 8 = .ok (.iconst 1, 1) := of_row (r := (8, .iconst 1, 1)) DX7_debt_b0 4 rfl
theorem dX7_debt_9 : decode cX7_debt 9 = .ok (.iconst 3, 1) := of_row (r := (9, .iconst 3, 1)) DX7_debt_b0 5 rfl
theorem dX7_debt_10 : decode cX7_debt 10 = .ok (.invokestatic 132, 3) := of_row (r := (10, .invokestatic 132, 3)) DX7_debt_b0 6 rfl
theorem dX7_debt_13 : decode cX7_debt 13 = .ok (.ifCond .eq 14, 3) := of_row (r := (13, .ifCond .eq 14, 3)) DX7_debt_b0 7 rfl
theorem dX7_debt_16 : decode cX7_debt 16 = .ok (.iload_n 3, 1) := of_row (r := (16, .iload_n 3, 1)) DX7_debt_b0 8 rfl
theorem dX7_debt_17 : decode cX7_debt 17 = .ok (.iconst 1, 1) := of_row (r := (17, .iconst 1, 1)) DX7_debt_b0 9 rfl
theorem dX7_debt_18 : decode cX7_debt 18 = .ok (.ldc_w 284, 3) := of_row (r := (18, .ldc_w 284, 3)) DX7_debt_b0 10 rfl
theorem dX7_debt_21 : decode cX7_debt 21 = .ok (.invokestatic 132, 3) := of_row (r := (21, .invokestatic 132, 3)) DX7_debt_b0 11 rfl
theorem dX7_debt_24 : decode cX7_debt 24 = .ok (.ifCond .ne 5, 3) := of_row (r := (24, .ifCond .ne 5, 3)) DX7_debt_b0 12 rfl
theorem dX7_debt_27 : decode cX7_debt 27 = .ok (.iconst (-1), 1) := of_row (r := (27, .iconst (-1), 1)) DX7_debt_b0 13 rfl
theorem dX7_debt_28 : decode cX7_debt 28 = .ok (.ireturn, 1) := of_row (r := (28, .ireturn, 1)) DX7_debt_b0 14 rfl
theorem dX7_debt_29 : decode cX7_debt 29 = .ok (.iload_n 2, 1) := of_row (r := (29, .iload_n 2, 1)) DX7_debt_b0 15 rfl
theorem dX7_debt_30 : decode cX7_debt 30 = .ok (.iconst 3, 1) := of_row (r := (30, .iconst 3, 1)) DX7_debt_b0 16 rfl
theorem dX7_debt_31 : decode cX7_debt 31 = .ok (.if_icmp .ne 20, 3) := of_row (r := (31, .if_icmp .ne 20, 3)) DX7_debt_b0 17 rfl
theorem dX7_debt_34 : decode cX7_debt 34 = .ok (.iload 4, 2) := of_row (r := (34, .iload 4, 2)) DX7_debt_b0 18 rfl
theorem dX7_debt_36 : decode cX7_debt 36 = .ok (.invokestatic 281, 3) := of_row (r := (36, .invokestatic 281, 3)) DX7_debt_b0 19 rfl
theorem dX7_debt_39 : decode cX7_debt 39 = .ok (.ifCond .eq 18, 3) := of_row (r := (39, .ifCond .eq 18, 3)) DX7_debt_b0 20 rfl
theorem dX7_debt_42 : decode cX7_debt 42 = .ok (.iload 4, 2) := of_row (r := (42, .iload 4, 2)) DX7_debt_b0 21 rfl
theorem dX7_debt_44 : decode cX7_debt 44 = .ok (.iload_n 1, 1) := of_row (r := (44, .iload_n 1, 1)) DX7_debt_b0 22 rfl
theorem dX7_debt_45 : decode cX7_debt 45 = .ok (.if_icmp .ne 14, 3) := of_row (r := (45, .if_icmp .ne 14, 3)) DX7_debt_b0 23 rfl
theorem dX7_debt_48 : decode cX7_debt 48 = .ok (.goto 9, 3) := of_row (r := (48, .goto 9, 3)) DX7_debt_b0 24 rfl
theorem dX7_debt_51 : decode cX7_debt 51 = .ok (.iload 4, 2) := of_row (r := (51, .iload 4, 2)) DX7_debt_b0 25 rfl
theorem dX7_debt_53 : decode cX7_debt 53 = .ok (.iconst (-1), 1) := of_row (r := (53, .iconst (-1), 1)) DX7_debt_b0 26 rfl
theorem dX7_debt_54 : decode cX7_debt 54 = .ok (.if_icmp .eq 5, 3) := of_row (r := (54, .if_icmp .eq 5, 3)) DX7_debt_b0 27 rfl
theorem dX7_debt_57 : decode cX7_debt 57 = .ok (.iconst (-1), 1) := of_row (r := (57, .iconst (-1), 1)) DX7_debt_b0 28 rfl
theorem dX7_debt_58 : decode cX7_debt 58 = .ok (.ireturn, 1) := of_row (r := (58, .ireturn, 1)) DX7_debt_b0 29 rfl
theorem dX7_debt_59 : decode cX7_debt 59 = .ok (.aload_n 0, 1) := of_row (r := (59, .aload_n 0, 1)) DX7_debt_b0 30 rfl
theorem dX7_debt_60 : decode cX7_debt 60 = .ok (.getfield 277, 3) := of_row (r := (60, .getfield 277, 3)) DX7_debt_b0 31 rfl
theorem dX7_debt_63 : decode cX7_debt 63 = .ok (.sipush 400, 3) := of_row (r := (63, .sipush 400, 3)) DX7_debt_b0 32 rfl
theorem dX7_debt_66 : decode cX7_debt 66 = .ok (.if_icmp .ne 8, 3) := of_row (r := (66, .if_icmp .ne 8, 3)) DX7_debt_b0 33 rfl
theorem dX7_debt_69 : decode cX7_debt 69 = .ok (.bipush (-3), 2) := of_row (r := (69, .bipush (-3), 2)) DX7_debt_b0 34 rfl
theorem dX7_debt_71 : decode cX7_debt 71 = .ok (.goto 12, 3) := of_row (r := (71, .goto 12, 3)) DX7_debt_b0 35 rfl
theorem dX7_debt_74 : decode cX7_debt 74 = .ok (.aload_n 0, 1) := of_row (r := (74, .aload_n 0, 1)) DX7_debt_b0 36 rfl
theorem dX7_debt_75 : decode cX7_debt 75 = .ok (.iload_n 1, 1) := of_row (r := (75, .iload_n 1, 1)) DX7_debt_b0 37 rfl
theorem dX7_debt_76 : decode cX7_debt 76 = .ok (.iload_n 2, 1) := of_row (r := (76, .iload_n 2, 1)) DX7_debt_b0 38 rfl
theorem dX7_debt_77 : decode cX7_debt 77 = .ok (.iload_n 3, 1) := of_row (r := (77, .iload_n 3, 1)) DX7_debt_b0 39 rfl
theorem dX7_debt_78 : decode cX7_debt 78 = .ok (.iload 4, 2) := of_row (r := (78, .iload 4, 2)) DX7_debt_b0 40 rfl
theorem dX7_debt_80 : decode cX7_debt 80 = .ok (.invokevirtual 285, 3) := of_row (r := (80, .invokevirtual 285, 3)) DX7_debt_b0 41 rfl
theorem dX7_debt_83 : decode cX7_debt 83 = .ok (.ireturn, 1) := of_row (r := (83, .ireturn, 1)) DX7_debt_b0 42 rfl
set_option maxRecDepth 20000 in
theorem DX7_term_b0 : ([(0, .aload_n 0, 1), (1, .getfield 267, 3), (4, .sipush 1000, 3), (7, .if_icmp .ne 5, 3), (10, .iconst (-1), 1), (11, .ireturn, 1), (12, .iconst 0, 1), (13, .istore_n 1, 1), (14, .iconst 0, 1), (15, .istore_n 2, 1), (16, .iload_n 2, 1), (17, .bipush 8, 2), (19, .if_icmp .ge 45, 3), (22, .iload_n 1, 1), (23, .aload_n 0, 1), (24, .getfield 267, 3), (27, .iconst 2, 1), (28, .irem, 1), (29, .iconst 1, 1), (30, .if_icmp .ne 25, 3), (33, .aload_n 0, 1), (34, .getfield 44, 3), (37, .iload_n 2, 1), (38, .iaload, 1), (39, .ifCond .le 16, 3), (42, .aload_n 0, 1), (43, .getfield 47, 3), (46, .iload_n 2, 1), (47, .iaload, 1), (48, .ifCond .lt 7, 3), (51, .iconst 1, 1), (52, .goto 4, 3), (55, .iconst 0, 1), (56, .iadd, 1), (57, .istore_n 1, 1), (58, .iinc 2 1, 3), (61, .goto (-45), 3), (64, .aload_n 0, 1), (65, .getfield 277, 3), (68, .iload_n 1, 1), (69, .iadd, 1), (70, .sipush 400, 3), (73, .if_icmp .le 6, 3), (76, .bipush (-3), 2), (78, .ireturn, 1), (79, .aload_n 0, 1), (80, .dup, 1), (81, .getfield 267, 3), (84, .iconst 1, 1), (85, .iadd, 1), (86, .putfield 267, 3), (89, .iconst 0, 1), (90, .istore_n 2, 1), (91, .iload_n 2, 1), (92, .bipush 8, 2), (94, .if_icmp .ge 55, 3), (97, .aload_n 0, 1), (98, .getfield 267, 3), (101, .iconst 2, 1), (102, .irem, 1)] : List (Nat × Instr × Nat)).all (fun r => decide (decode cX7_term r.1 = .ok r.2)) = true := by decide +kernel
theorem dX7_term_0 : decode cX7_term 0 = .ok (.aload_n 0, 1) := of_row (r := (0, .aload_n 0, 1)) DX7_term_b0 0 rfl
theorem dX7_term_1 : decode cX7_term 1 = .ok (.getfield 267, 3) := of_row (r := (1, .getfield 267, 3)) DX7_term_b0 1 rfl
theorem dX7_term_4 : decode cX7_term 4 = .ok (.sipush 1000, 3) := of_row (r := (4, .sipush 1000, 3)) DX7_term_b0 2 rfl
theorem dX7_term_7 : decode cX7_term 7 = .ok (.if_icmp .ne 5, 3) := of_row (r := (7, .if_icmp .ne 5, 3)) DX7_term_b0 3 rfl
theorem dX7_term_10 : decode cX7_term 10 = .ok (.iconst (-1), 1) := of_row (r := (10, .iconst (-1), 1)) DX7_term_b0 4 rfl
theorem dX7_term_11 : decode cX7_term 11 = .ok (.ireturn, 1) := of_row (r := (11, .ireturn, 1)) DX7_term_b0 5 rfl
theorem dX7_term_12 : decode cX7_term 12 = .ok (.iconst 0, 1) := of_row (r := (12, .iconst 0, 1)) DX7_term_b0 6 rfl
theorem dX7_term_13 : decode cX7_term 13 = .ok (.istore_n 1, 1) := of_row (r := (13, .istore_n 1, 1)) DX7_term_b0 7 rfl
theorem dX7_term_14 : decode cX7_term 14 = .ok (.iconst 0, 1) := of_row (r := (14, .iconst 0, 1)) DX7_term_b0 8 rfl
theorem dX7_term_15 : decode cX7_term 15 = .ok (.istore_n 2, 1) := of_row (r := (15, .istore_n 2, 1)) DX7_term_b0 9 rfl
theorem dX7_term_16 : decode cX7_term 16 = .ok (.iload_n 2, 1) := of_row (r := (16, .iload_n 2, 1)) DX7_term_b0 10 rfl
theorem dX7_term_17 : decode cX7_term 17 = .ok (.bipush 8, 2) := of_row (r := (17, .bipush 8, 2)) DX7_term_b0 11 rfl
theorem dX7_term_19 : decode cX7_term 19 = .ok (.if_icmp .ge 45, 3) := of_row (r := (19, .if_icmp .ge 45, 3)) DX7_term_b0 12 rfl
theorem dX7_term_22 : decode cX7_term 22 = .ok (.iload_n 1, 1) := of_row (r := (22, .iload_n 1, 1)) DX7_term_b0 13 rfl
theorem dX7_term_23 : decode cX7_term 23 = .ok (.aload_n 0, 1) := of_row (r := (23, .aload_n 0, 1)) DX7_term_b0 14 rfl
theorem dX7_term_24 : decode cX7_term 24 = .ok (.getfield 267, 3) := of_row (r := (24, .getfield 267, 3)) DX7_term_b0 15 rfl
theorem dX7_term_27 : decode cX7_term 27 = .ok (.iconst 2, 1) := of_row (r := (27, .iconst 2, 1)) DX7_term_b0 16 rfl
theorem dX7_term_28 : decode cX7_term 28 = .ok (.irem, 1) := of_row (r := (28, .irem, 1)) DX7_term_b0 17 rfl
theorem dX7_term_29 : decode cX7_term 29 = .ok (.iconst 1, 1) := of_row (r := (29, .iconst 1, 1)) DX7_term_b0 18 rfl
theorem dX7_term_30 : decode cX7_term 30 = .ok (.if_icmp .ne 25, 3) := of_row (r := (30, .if_icmp .ne 25, 3)) DX7_term_b0 19 rfl
theorem dX7_term_33 : decode cX7_term 33 = .ok (.aload_n 0, 1) := of_row (r := (33, .aload_n 0, 1)) DX7_term_b0 20 rfl
theorem dX7_term_34 : decode cX7_term 34 = .ok (.getfield 44, 3) := of_row (r := (34, .getfield 44, 3)) DX7_term_b0 21 rfl
theorem dX7_term_37 : decode cX7_term 37 = .ok (.iload_n 2, 1) := of_row (r := (37, .iload_n 2, 1)) DX7_term_b0 22 rfl
theorem dX7_term_38 : decode cX7_term 38 = .ok (.iaload, 1) := of_row (r := (38, .iaload, 1)) DX7_term_b0 23 rfl
theorem dX7_term_39 : decode cX7_term 39 = .ok (.ifCond .le 16, 3) := of_row (r := (39, .ifCond .le 16, 3)) DX7_term_b0 24 rfl
theorem dX7_term_42 : decode cX7_term 42 = .ok (.aload_n 0, 1) := of_row (r := (42, .aload_n 0, 1)) DX7_term_b0 25 rfl
theorem dX7_term_43 : decode cX7_term 43 = .ok (.getfield 47, 3) := of_row (r := (43, .getfield 47, 3)) DX7_term_b0 26 rfl
theorem dX7_term_46 : decode cX7_term 46 = .ok (.iload_n 2, 1) := of_row (r := (46, .iload_n 2, 1)) DX7_term_b0 27 rfl
theorem dX7_term_47 : decode cX7_term 47 = .ok (.iaload, 1) := of_row (r := (47, .iaload, 1)) DX7_term_b0 28 rfl
theorem dX7_term_48 : decode cX7_term 48 = .ok (.ifCond .lt 7, 3) := of_row (r := (48, .ifCond .lt 7, 3)) DX7_term_b0 29 rfl
theorem dX7_term_51 : decode cX7_term 51 = .ok (.iconst 1, 1) := of_row (r := (51, .iconst 1, 1)) DX7_term_b0 30 rfl
theorem dX7_term_52 : decode cX7_term 52 = .ok (.goto 4, 3) := of_row (r := (52, .goto 4, 3)) DX7_term_b0 31 rfl
theorem dX7_term_55 : decode cX7_term 55 = .ok (.iconst 0, 1) := of_row (r := (55, .iconst 0, 1)) DX7_term_b0 32 rfl
theorem dX7_term_56 : decode cX7_term 56 = .ok (.iadd, 1) := of_row (r := (56, .iadd, 1)) DX7_term_b0 33 rfl
theorem dX7_term_57 : decode cX7_term 57 = .ok (.istore_n 1, 1) := of_row (r := (57, .istore_n 1, 1)) DX7_term_b0 34 rfl
theorem dX7_term_58 : decode cX7_term 58 = .ok (.iinc 2 1, 3) := of_row (r := (58, .iinc 2 1, 3)) DX7_term_b0 35 rfl
theorem dX7_term_61 : decode cX7_term 61 = .ok (.goto (-45), 3) := of_row (r := (61, .goto (-45), 3)) DX7_term_b0 36 rfl
theorem dX7_term_64 : decode cX7_term 64 = .ok (.aload_n 0, 1) := of_row (r := (64, .aload_n 0, 1)) DX7_term_b0 37 rfl
theorem dX7_term_65 : decode cX7_term 65 = .ok (.getfield 277, 3) := of_row (r := (65, .getfield 277, 3)) DX7_term_b0 38 rfl
theorem dX7_term_68 : decode cX7_term 68 = .ok (.iload_n 1, 1) := of_row (r := (68, .iload_n 1, 1)) DX7_term_b0 39 rfl
theorem dX7_term_69 : decode cX7_term 69 = .ok (.iadd, 1) := of_row (r := (69, .iadd, 1)) DX7_term_b0 40 rfl
theorem dX7_term_70 : decode cX7_term 70 = .ok (.sipush 400, 3) := of_row (r := (70, .sipush 400, 3)) DX7_term_b0 41 rfl
theorem dX7_term_73 : decode cX7_term 73 = .ok (.if_icmp .le 6, 3) := of_row (r := (73, .if_icmp .le 6, 3)) DX7_term_b0 42 rfl
theorem dX7_term_76 : decode cX7_term 76 = .ok (.bipush (-3), 2) := of_row (r := (76, .bipush (-3), 2)) DX7_term_b0 43 rfl
theorem dX7_term_78 : decode cX7_term 78 = .ok (.ireturn, 1) := of_row (r := (78, .ireturn, 1)) DX7_term_b0 44 rfl
theorem dX7_term_79 : decode cX7_term 79 = .ok (.aload_n 0, 1) := of_row (r := (79, .aload_n 0, 1)) DX7_term_b0 45 rfl
theorem dX7_term_80 : decode cX7_term 80 = .ok (.dup, 1) := of_row (r := (80, .dup, 1)) DX7_term_b0 46 rfl
theorem dX7_term_81 : decode cX7_term 81 = .ok (.getfield 267, 3) := of_row (r := (81, .getfield 267, 3)) DX7_term_b0 47 rfl
theorem dX7_term_84 : decode cX7_term 84 = .ok (.iconst 1, 1) := of_row (r := (84, .iconst 1, 1)) DX7_term_b0 48 rfl
theorem dX7_term_85 : decode cX7_term 85 = .ok (.iadd, 1) := of_row (r := (85, .iadd, 1)) DX7_term_b0 49 rfl
theorem dX7_term_86 : decode cX7_term 86 = .ok (.putfield 267, 3) := of_row (r := (86, .putfield 267, 3)) DX7_term_b0 50 rfl
theorem dX7_term_89 : decode cX7_term 89 = .ok (.iconst 0, 1) := of_row (r := (89, .iconst 0, 1)) DX7_term_b0 51 rfl
theorem dX7_term_90 : decode cX7_term 90 = .ok (.istore_n 2, 1) := of_row (r := (90, .istore_n 2, 1)) DX7_term_b0 52 rfl
theorem dX7_term_91 : decode cX7_term 91 = .ok (.iload_n 2, 1) := of_row (r := (91, .iload_n 2, 1)) DX7_term_b0 53 rfl
theorem dX7_term_92 : decode cX7_term 92 = .ok (.bipush 8, 2) := of_row (r := (92, .bipush 8, 2)) DX7_term_b0 54 rfl
theorem dX7_term_94 : decode cX7_term 94 = .ok (.if_icmp .ge 55, 3) := of_row (r := (94, .if_icmp .ge 55, 3)) DX7_term_b0 55 rfl
theorem dX7_term_97 : decode cX7_term 97 = .ok (.aload_n 0, 1) := of_row (r := (97, .aload_n 0, 1)) DX7_term_b0 56 rfl
theorem dX7_term_98 : decode cX7_term 98 = .ok (.getfield 267, 3) := of_row (r := (98, .getfield 267, 3)) DX7_term_b0 57 rfl
theorem dX7_term_101 : decode cX7_term 101 = .ok (.iconst 2, 1) := of_row (r := (101, .iconst 2, 1)) DX7_term_b0 58 rfl
theorem dX7_term_102 : decode cX7_term 102 = .ok (.irem, 1) := of_row (r := (102, .irem, 1)) DX7_term_b0 59 rfl
set_option maxRecDepth 20000 in
theorem DX7_term_b1 : ([(103, .ifCond .ne 46, 3), (106, .aload_n 0, 1), (107, .getfield 44, 3), (110, .iload_n 2, 1), (111, .iaload, 1), (112, .ifCond .le 31, 3), (115, .aload_n 0, 1), (116, .getfield 47, 3), (119, .iload_n 2, 1), (120, .iaload, 1), (121, .ifCond .lt 22, 3), (124, .aload_n 0, 1), (125, .aload_n 0, 1), (126, .getfield 47, 3), (129, .iload_n 2, 1), (130, .iaload, 1), (131, .iconst 0, 1), (132, .aload_n 0, 1), (133, .getfield 44, 3), (136, .iload_n 2, 1), (137, .iaload, 1), (138, .iconst (-1), 1), (139, .invokevirtual 285, 3), (142, .istore_n 1, 1), (143, .iinc 2 1, 3), (146, .goto (-55), 3), (149, .aload_n 0, 1), (150, .getfield 267, 3), (153, .ireturn, 1)] : List (Nat × Instr × Nat)).all (fun r => decide (decode cX7_term r.1 = .ok r.2)) = true := by decide +kernel
theorem dX7_term_103 : decode cX7_term 103 = .ok (.ifCond .ne 46, 3) := of_row (r := (103, .ifCond .ne 46, 3)) DX7_term_b1 0 rfl
theorem dX7_term_106 : decode cX7_term 106 = .ok (.aload_n 0, 1) := of_row (r := (106, .aload_n 0, 1)) DX7_term_b1 1 rfl
theorem dX7_term_107 : decode cX7_term 107 = .ok (.getfield 44, 3) := of_row (r := (107, .getfield 44, 3)) DX7_term_b1 2 rfl
theorem dX7_term_110 : decode cX7_term 110 = .ok (.iload_n 2, 1) := of_row (r := (110, .iload_n 2, 1)) DX7_term_b1 3 rfl
theorem dX7_term_111 : decode cX7_term 111 = .ok (.iaload, 1) := of_row (r := (111, .iaload, 1)) DX7_term_b1 4 rfl
theorem dX7_term_112 : decode cX7_term 112 = .ok (.ifCond .le 31, 3) := of_row (r := (112, .ifCond .le 31, 3)) DX7_term_b1 5 rfl
theorem dX7_term_115 : decode cX7_term 115 = .ok (.aload_n 0, 1) := of_row (r := (115, .aload_n 0, 1)) DX7_term_b1 6 rfl
theorem dX7_term_116 : decode cX7_term 116 = .ok (.getfield 47, 3) := of_row (r := (116, .getfield 47, 3)) DX7_term_b1 7 rfl
theorem dX7_term_119 : decode cX7_term 119 = .ok (.iload_n 2, 1) := of_row (r := (119, .iload_n 2, 1)) DX7_term_b1 8 rfl
theorem dX7_term_120 : decode cX7_term 120 = .ok (.iaload, 1) := of_row (r := (120, .iaload, 1)) DX7_term_b1 9 rfl
theorem dX7_term_121 : decode cX7_term 121 = .ok (.ifCond .lt 22, 3) := of_row (r := (121, .ifCond .lt 22, 3)) DX7_term_b1 10 rfl
theorem dX7_term_124 : decode cX7_term 124 = .ok (.aload_n 0, 1) := of_row (r := (124, .aload_n 0, 1)) DX7_term_b1 11 rfl
theorem dX7_term_125 : decode cX7_term 125 = .ok (.aload_n 0, 1) := of_row (r := (125, .aload_n 0, 1)) DX7_term_b1 12 rfl
theorem dX7_term_126 : decode cX7_term 126 = .ok (.getfield 47, 3) := of_row (r := (126, .getfield 47, 3)) DX7_term_b1 13 rfl
theorem dX7_term_129 : decode cX7_term 129 = .ok (.iload_n 2, 1) := of_row (r := (129, .iload_n 2, 1)) DX7_term_b1 14 rfl
theorem dX7_term_130 : decode cX7_term 130 = .ok (.iaload, 1) := of_row (r := (130, .iaload, 1)) DX7_term_b1 15 rfl
theorem dX7_term_131 : decode cX7_term 131 = .ok (.iconst 0, 1) := of_row (r := (131, .iconst 0, 1)) DX7_term_b1 16 rfl
theorem dX7_term_132 : decode cX7_term 132 = .ok (.aload_n 0, 1) := of_row (r := (132, .aload_n 0, 1)) DX7_term_b1 17 rfl
theorem dX7_term_133 : decode cX7_term 133 = .ok (.getfield 44, 3) := of_row (r := (133, .getfield 44, 3)) DX7_term_b1 18 rfl
theorem dX7_term_136 : decode cX7_term 136 = .ok (.iload_n 2, 1) := of_row (r := (136, .iload_n 2, 1)) DX7_term_b1 19 rfl
theorem dX7_term_137 : decode cX7_term 137 = .ok (.iaload, 1) := of_row (r := (137, .iaload, 1)) DX7_term_b1 20 rfl
theorem dX7_term_138 : decode cX7_term 138 = .ok (.iconst (-1), 1) := of_row (r := (138, .iconst (-1), 1)) DX7_term_b1 21 rfl
theorem dX7_term_139 : decode cX7_term 139 = .ok (.invokevirtual 285, 3) := of_row (r := (139, .invokevirtual 285, 3)) DX7_term_b1 22 rfl
theorem dX7_term_142 : decode cX7_term 142 = .ok (.istore_n 1, 1) := of_row (r := (142, .istore_n 1, 1)) DX7_term_b1 23 rfl
theorem dX7_term_143 : decode cX7_term 143 = .ok (.iinc 2 1, 3) := of_row (r := (143, .iinc 2 1, 3)) DX7_term_b1 24 rfl
theorem dX7_term_146 : decode cX7_term 146 = .ok (.goto (-55), 3) := of_row (r := (146, .goto (-55), 3)) DX7_term_b1 25 rfl
theorem dX7_term_149 : decode cX7_term 149 = .ok (.aload_n 0, 1) := of_row (r := (149, .aload_n 0, 1)) DX7_term_b1 26 rfl
theorem dX7_term_150 : decode cX7_term 150 = .ok (.getfield 267, 3) := of_row (r := (150, .getfield 267, 3)) DX7_term_b1 27 rfl
theorem dX7_term_153 : decode cX7_term 153 = .ok (.ireturn, 1) := of_row (r := (153, .ireturn, 1)) DX7_term_b1 28 rfl
set_option maxRecDepth 20000 in
theorem DX7_allOf_b0 : ([(0, .lconst 0, 1), (1, .lstore_n 2, 1), (2, .iconst 0, 1), (3, .istore 4, 2), (5, .iload 4, 2), (7, .aload_n 0, 1), (8, .getfield 277, 3), (11, .if_icmp .ge 35, 3), (14, .lload_n 2, 1), (15, .aload_n 0, 1), (16, .getfield 50, 3), (19, .iload 4, 2), (21, .iaload, 1), (22, .iload_n 1, 1), (23, .if_icmp .ne 14, 3), (26, .aload_n 0, 1), (27, .getfield 59, 3), (30, .iload 4, 2), (32, .iaload, 1), (33, .i2l, 1), (34, .goto 4, 3), (37, .lconst 0, 1), (38, .ladd, 1), (39, .lstore_n 2, 1), (40, .iinc 4 1, 3), (43, .goto (-38), 3), (46, .lload_n 2, 1), (47, .lreturn, 1)] : List (Nat × Instr × Nat)).all (fun r => decide (decode cX7_allOf r.1 = .ok r.2)) = true := by decide +kernel
theorem dX7_allOf_0 : decode cX7_allOf 0 = .ok (.lconst 0, 1) := of_row (r := (0, .lconst 0, 1)) DX7_allOf_b0 0 rfl
theorem dX7_allOf_1 : decode cX7_allOf 1 = .ok (.lstore_n 2, 1) := of_row (r := (1, .lstore_n 2, 1)) DX7_allOf_b0 1 rfl
theorem dX7_allOf_2 : decode cX7_allOf 2 = .ok (.iconst 0, 1) := of_row (r := (2, .iconst 0, 1)) DX7_allOf_b0 2 rfl
theorem dX7_allOf_3 : decode cX7_allOf 3 = .ok (.istore 4, 2) := of_row (r := (3, .istore 4, 2)) DX7_allOf_b0 3 rfl
theorem dX7_allOf_5 : decode cX7_allOf 5 = .ok (.iload 4, 2) := of_row (r := (5, .iload 4, 2)) DX7_allOf_b0 4 rfl
theorem dX7_allOf_7 : decode cX7_allOf 7 = .ok (.aload_n 0, 1) := of_row (r := (7, .aload_n 0, 1)) DX7_allOf_b0 5 rfl
theorem dX7_allOf_8 : decode cX7_allOf 8 = .ok (.getfield 277, 3) := of_row (r := (8, .getfield 277, 3)) DX7_allOf_b0 6 rfl
theorem dX7_allOf_11 : decode cX7_allOf 11 = .ok (.if_icmp .ge 35, 3) := of_row (r := (11, .if_icmp .ge 35, 3)) DX7_allOf_b0 7 rfl
theorem dX7_allOf_14 : decode cX7_allOf 14 = .ok (.lload_n 2, 1) := of_row (r := (14, .lload_n 2, 1)) DX7_allOf_b0 8 rfl
theorem dX7_allOf_15 : decode cX7_allOf 15 = .ok (.aload_n 0, 1) := of_row (r := (15, .aload_n 0, 1)) DX7_allOf_b0 9 rfl
theorem dX7_allOf_16 : decode cX7_allOf 16 = .ok (.getfield 50, 3) := of_row (r := (16, .getfield 50, 3)) DX7_allOf_b0 10 rfl
theorem dX7_allOf_19 : decode cX7_allOf 19 = .ok (.iload 4, 2) := of_row (r := (19, .iload 4, 2)) DX7_allOf_b0 11 rfl
theorem dX7_allOf_21 : decode cX7_allOf 21 = .ok (.iaload, 1) := of_row (r := (21, .iaload, 1)) DX7_allOf_b0 12 rfl
theorem dX7_allOf_22 : decode cX7_allOf 22 = .ok (.iload_n 1, 1) := of_row (r := (22, .iload_n 1, 1)) DX7_allOf_b0 13 rfl
theorem dX7_allOf_23 : decode cX7_allOf 23 = .ok (.if_icmp .ne 14, 3) := of_row (r := (23, .if_icmp .ne 14, 3)) DX7_allOf_b0 14 rfl
theorem dX7_allOf_26 : decode cX7_allOf 26 = .ok (.aload_n 0, 1) := of_row (r := (26, .aload_n 0, 1)) DX7_allOf_b0 15 rfl
theorem dX7_allOf_27 : decode cX7_allOf 27 = .ok (.getfield 59, 3) := of_row (r := (27, .getfield 59, 3)) DX7_allOf_b0 16 rfl
theorem dX7_allOf_30 : decode cX7_allOf 30 = .ok (.iload 4, 2) := of_row (r := (30, .iload 4, 2)) DX7_allOf_b0 17 rfl
theorem dX7_allOf_32 : decode cX7_allOf 32 = .ok (.iaload, 1) := of_row (r := (32, .iaload, 1)) DX7_allOf_b0 18 rfl
theorem dX7_allOf_33 : decode cX7_allOf 33 = .ok (.i2l, 1) := of_row (r := (33, .i2l, 1)) DX7_allOf_b0 19 rfl
theorem dX7_allOf_34 : decode cX7_allOf 34 = .ok (.goto 4, 3) := of_row (r := (34, .goto 4, 3)) DX7_allOf_b0 20 rfl
theorem dX7_allOf_37 : decode cX7_allOf 37 = .ok (.lconst 0, 1) := of_row (r := (37, .lconst 0, 1)) DX7_allOf_b0 21 rfl
theorem dX7_allOf_38 : decode cX7_allOf 38 = .ok (.ladd, 1) := of_row (r := (38, .ladd, 1)) DX7_allOf_b0 22 rfl
theorem dX7_allOf_39 : decode cX7_allOf 39 = .ok (.lstore_n 2, 1) := of_row (r := (39, .lstore_n 2, 1)) DX7_allOf_b0 23 rfl
theorem dX7_allOf_40 : decode cX7_allOf 40 = .ok (.iinc 4 1, 3) := of_row (r := (40, .iinc 4 1, 3)) DX7_allOf_b0 24 rfl
theorem dX7_allOf_43 : decode cX7_allOf 43 = .ok (.goto (-38), 3) := of_row (r := (43, .goto (-38), 3)) DX7_allOf_b0 25 rfl
theorem dX7_allOf_46 : decode cX7_allOf 46 = .ok (.lload_n 2, 1) := of_row (r := (46, .lload_n 2, 1)) DX7_allOf_b0 26 rfl
theorem dX7_allOf_47 : decode cX7_allOf 47 = .ok (.lreturn, 1) := of_row (r := (47, .lreturn, 1)) DX7_allOf_b0 27 rfl
set_option maxRecDepth 20000 in
theorem DX7_owedOf_b0 : ([(0, .iconst 0, 1), (1, .istore_n 2, 1), (2, .iconst 0, 1), (3, .istore_n 3, 1), (4, .iload_n 3, 1), (5, .aload_n 0, 1), (6, .getfield 277, 3), (9, .if_icmp .ge 36, 3), (12, .iload_n 2, 1), (13, .aload_n 0, 1), (14, .getfield 50, 3), (17, .iload_n 3, 1), (18, .iaload, 1), (19, .iload_n 1, 1), (20, .if_icmp .ne 16, 3), (23, .aload_n 0, 1), (24, .getfield 59, 3), (27, .iload_n 3, 1), (28, .iaload, 1), (29, .ifCond .le 7, 3), (32, .iconst 1, 1), (33, .goto 4, 3), (36, .iconst 0, 1), (37, .iadd, 1), (38, .istore_n 2, 1), (39, .iinc 3 1, 3), (42, .goto (-38), 3), (45, .iload_n 2, 1), (46, .ireturn, 1)] : List (Nat × Instr × Nat)).all (fun r => decide (decode cX7_owedOf r.1 = .ok r.2)) = true := by decide +kernel
theorem dX7_owedOf_0 : decode cX7_owedOf 0 = .ok (.iconst 0, 1) := of_row (r := (0, .iconst 0, 1)) DX7_owedOf_b0 0 rfl
theorem dX7_owedOf_1 : decode cX7_owedOf 1 = .ok (.istore_n 2, 1) := of_row (r := (1, .istore_n 2, 1)) DX7_owedOf_b0 1 rfl
theorem dX7_owedOf_2 : decode cX7_owedOf 2 = .ok (.iconst 0, 1) := of_row (r := (2, .iconst 0, 1)) DX7_owedOf_b0 2 rfl
theorem dX7_owedOf_3 : decode cX7_owedOf 3 = .ok (.istore_n 3, 1) := of_row (r := (3, .istore_n 3, 1)) DX7_owedOf_b0 3 rfl
theorem dX7_owedOf_4 : decode cX7_owedOf 4 = .ok (.iload_n 3, 1) := of_row (r := (4, .iload_n 3, 1)) DX7_owedOf_b0 4 rfl
theorem dX7_owedOf_5 : decode cX7_owedOf 5 = .ok (.aload_n 0, 1) := of_row (r := (5, .aload_n 0, 1)) DX7_owedOf_b0 5 rfl
theorem dX7_owedOf_6 : decode cX7_owedOf 6 = .ok (.getfield 277, 3) := of_row (r := (6, .getfield 277, 3)) DX7_owedOf_b0 6 rfl
theorem dX7_owedOf_9 : decode cX7_owedOf 9 = .ok (.if_icmp .ge 36, 3) := of_row (r := (9, .if_icmp .ge 36, 3)) DX7_owedOf_b0 7 rfl
theorem dX7_owedOf_12 : decode cX7_owedOf 12 = .ok (.iload_n 2, 1) := of_row (r := (12, .iload_n 2, 1)) DX7_owedOf_b0 8 rfl
theorem dX7_owedOf_13 : decode cX7_owedOf 13 = .ok (.aload_n 0, 1) := of_row (r := (13, .aload_n 0, 1)) DX7_owedOf_b0 9 rfl
theorem dX7_owedOf_14 : decode cX7_owedOf 14 = .ok (.getfield 50, 3) := of_row (r := (14, .getfield 50, 3)) DX7_owedOf_b0 10 rfl
theorem dX7_owedOf_17 : decode cX7_owedOf 17 = .ok (.iload_n 3, 1) := of_row (r := (17, .iload_n 3, 1)) DX7_owedOf_b0 11 rfl
theorem dX7_owedOf_18 : decode cX7_owedOf 18 = .ok (.iaload, 1) := of_row (r := (18, .iaload, 1)) DX7_owedOf_b0 12 rfl
theorem dX7_owedOf_19 : decode cX7_owedOf 19 = .ok (.iload_n 1, 1) := of_row (r := (19, .iload_n 1, 1)) DX7_owedOf_b0 13 rfl
theorem dX7_owedOf_20 : decode cX7_owedOf 20 = .ok (.if_icmp .ne 16, 3) := of_row (r := (20, .if_icmp .ne 16, 3)) DX7_owedOf_b0 14 rfl
theorem dX7_owedOf_23 : decode cX7_owedOf 23 = .ok (.aload_n 0, 1) := of_row (r := (23, .aload_n 0, 1)) DX7_owedOf_b0 15 rfl
