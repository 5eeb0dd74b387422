set_option maxRecDepth 20000 in
theorem DX7_init_b0 : ([(0, .aload_n 0, 1), (1, .invokespecial 1, 3), (4, .aload_n 0, 1), (5, .sipush 800, 3), (8, .newarray .byte, 2), (10, .putfield 7, 3), (13, .aload_n 0, 1), (14, .bipush 10, 2), (16, .newarray .int, 2), (18, .putfield 13, 3), (21, .aload_n 0, 1), (22, .sipush 400, 3), (25, .newarray .int, 2), (27, .putfield 17, 3), (30, .aload_n 0, 1), (31, .sipush 400, 3), (34, .newarray .int, 2), (36, .putfield 20, 3), (39, .aload_n 0, 1), (40, .sipush 400, 3), (43, .newarray .int, 2), (45, .putfield 23, 3), (48, .aload_n 0, 1), (49, .sipush 400, 3), (52, .newarray .int, 2), (54, .putfield 26, 3), (57, .aload_n 0, 1), (58, .sipush 9000, 3), (61, .newarray .int, 2), (63, .putfield 29, 3), (66, .aload_n 0, 1), (67, .sipush 9000, 3), (70, .newarray .int, 2), (72, .putfield 32, 3), (75, .aload_n 0, 1), (76, .sipush 200, 3), (79, .newarray .int, 2), (81, .putfield 35, 3), (84, .aload_n 0, 1), (85, .bipush 40, 2), (87, .newarray .int, 2), (89, .putfield 38, 3), (92, .aload_n 0, 1), (93, .bipush 40, 2), (95, .newarray .int, 2), (97, .putfield 41, 3), (100, .aload_n 0, 1), (101, .bipush 8, 2), (103, .newarray .int, 2), (105, .putfield 44, 3), (108, .aload_n 0, 1), (109, .bipush 8, 2), (111, .newarray .int, 2), (113, .dup, 1), (114, .iconst 0, 1), (115, .iconst (-1), 1), (116, .iastore, 1), (117, .dup, 1), (118, .iconst 1, 1), (119, .iconst (-1), 1)] : List (Nat × Instr × Nat)).all (fun r => decide (decode cX7_init r.1 = .ok r.2)) = true := by decide +kernel
theorem dX7_init_0 : decode cX7_init 0 = .ok (.aload_n 0, 1) := of_row (r := (0, .aload_n 0, 1)) DX7_init_b0 0 rfl
theorem dX7_init_1 : decode cX7_init 1 = .ok (.invokespecial 1, 3) := of_row (r := (1, .invokespecial 1, 3)) DX7_init_b0 1 rfl
theorem dX7_init_4 : decode cX7_init 4 = .ok (.aload_n 0, 1) := of_row (r := (4, .aload_n 0, 1)) DX7_init_b0 2 rfl
theorem dX7_init_5 : decode cX7_init 5 = .ok (.sipush 800, 3) := of_row (r := (5, .sipush 800, 3)) DX7_init_b0 3 rfl
theorem dX7_init_8 : decode cX7_init 8 = .ok (.newarray .byte, 2) := of_row (r := (8, .newarray .byte, 2)) DX7_init_b0 4 rfl
theorem dX7_init_10 : decode cX7_init 10 = .ok (.putfield 7, 3) := of_row (r := (10, .putfield 7, 3)) DX7_init_b0 5 rfl
theorem dX7_init_13 : decode cX7_init 13 = .ok (.aload_n 0, 1) := of_row (r := (13, .aload_n 0, 1)) DX7_init_b0 6 rfl
theorem dX7_init_14 : decode cX7_init 14 = .ok (.bipush 10, 2) := of_row (r := (14, .bipush 10, 2)) DX7_init_b0 7 rfl
theorem dX7_init_16 : decode cX7_init 16 = .ok (.newarray .int, 2) := of_row (r := (16, .newarray .int, 2)) DX7_init_b0 8 rfl
theorem dX7_init_18 : decode cX7_init 18 = .ok (.putfield 13, 3) := of_row (r := (18, .putfield 13, 3)) DX7_init_b0 9 rfl
theorem dX7_init_21 : decode cX7_init 21 = .ok (.aload_n 0, 1) := of_row (r := (21, .aload_n 0, 1)) DX7_init_b0 10 rfl
theorem dX7_init_22 : decode cX7_init 22 = .ok (.sipush 400, 3) := of_row (r := (22, .sipush 400, 3)) DX7_init_b0 11 rfl
theorem dX7_init_25 : decode cX7_init 25 = .ok (.newarray .int, 2) := of_row (r := (25, .newarray .int, 2)) DX7_init_b0 12 rfl
theorem dX7_init_27 : decode cX7_init 27 = .ok (.putfield 17, 3) := of_row (r := (27, .putfield 17, 3)) DX7_init_b0 13 rfl
theorem dX7_init_30 : decode cX7_init 30 = .ok (.aload_n 0, 1) := of_row (r := (30, .aload_n 0, 1)) DX7_init_b0 14 rfl
theorem dX7_init_31 : decode cX7_init 31 = .ok (.sipush 400, 3) := of_row (r := (31, .sipush 400, 3)) DX7_init_b0 15 rfl
theorem dX7_init_34 : decode cX7_init 34 = .ok (.newarray .int, 2) := of_row (r := (34, .newarray .int, 2)) DX7_init_b0 16 rfl
theorem dX7_init_36 : decode cX7_init 36 = .ok (.putfield 20, 3) := of_row (r := (36, .putfield 20, 3)) DX7_init_b0 17 rfl
theorem dX7_init_39 : decode cX7_init 39 = .ok (.aload_n 0, 1) := of_row (r := (39, .aload_n 0, 1)) DX7_init_b0 18 rfl
theorem dX7_init_40 : decode cX7_init 40 = .ok (.sipush 400, 3) := of_row (r := (40, .sipush 400, 3)) DX7_init_b0 19 rfl
theorem dX7_init_43 : decode cX7_init 43 = .ok (.newarray .int, 2) := of_row (r := (43, .newarray .int, 2)) DX7_init_b0 20 rfl
theorem dX7_init_45 : decode cX7_init 45 = .ok (.putfield 23, 3) := of_row (r := (45, .putfield 23, 3)) DX7_init_b0 21 rfl
theorem dX7_init_48 : decode cX7_init 48 = .ok (.aload_n 0, 1) := of_row (r := (48, .aload_n 0, 1)) DX7_init_b0 22 rfl
theorem dX7_init_49 : decode cX7_init 49 = .ok (.sipush 400, 3) := of_row (r := (49, .sipush 400, 3)) DX7_init_b0 23 rfl
theorem dX7_init_52 : decode cX7_init 52 = .ok (.newarray .int, 2) := of_row (r := (52, .newarray .int, 2)) DX7_init_b0 24 rfl
theorem dX7_init_54 : decode cX7_init 54 = .ok (.putfield 26, 3) := of_row (r := (54, .putfield 26, 3)) DX7_init_b0 25 rfl
theorem dX7_init_57 : decode cX7_init 57 = .ok (.aload_n 0, 1) := of_row (r := (57, .aload_n 0, 1)) DX7_init_b0 26 rfl
theorem dX7_init_58 : decode cX7_init 58 = .ok (.sipush 9000, 3) := of_row (r := (58, .sipush 9000, 3)) DX7_init_b0 27 rfl
theorem dX7_init_61 : decode cX7_init 61 = .ok (.newarray .int, 2) := of_row (r := (61, .newarray .int, 2)) DX7_init_b0 28 rfl
theorem dX7_init_63 : decode cX7_init 63 = .ok (.putfield 29, 3) := of_row (r := (63, .putfield 29, 3)) DX7_init_b0 29 rfl
theorem dX7_init_66 : decode cX7_init 66 = .ok (.aload_n 0, 1) := of_row (r := (66, .aload_n 0, 1)) DX7_init_b0 30 rfl
theorem dX7_init_67 : decode cX7_init 67 = .ok (.sipush 9000, 3) := of_row (r := (67, .sipush 9000, 3)) DX7_init_b0 31 rfl
theorem dX7_init_70 : decode cX7_init 70 = .ok (.newarray .int, 2) := of_row (r := (70, .newarray .int, 2)) DX7_init_b0 32 rfl
theorem dX7_init_72 : decode cX7_init 72 = .ok (.putfield 32, 3) := of_row (r := (72, .putfield 32, 3)) DX7_init_b0 33 rfl
theorem dX7_init_75 : decode cX7_init 75 = .ok (.aload_n 0, 1) := of_row (r := (75, .aload_n 0, 1)) DX7_init_b0 34 rfl
theorem dX7_init_76 : decode cX7_init 76 = .ok (.sipush 200, 3) := of_row (r := (76, .sipush 200, 3)) DX7_init_b0 35 rfl
theorem dX7_init_79 : decode cX7_init 79 = .ok (.newarray .int, 2) := of_row (r := (79, .newarray .int, 2)) DX7_init_b0 36 rfl
theorem dX7_init_81 : decode cX7_init 81 = .ok (.putfield 35, 3) := of_row (r := (81, .putfield 35, 3)) DX7_init_b0 37 rfl
theorem dX7_init_84 : decode cX7_init 84 = .ok (.aload_n 0, 1) := of_row (r := (84, .aload_n 0, 1)) DX7_init_b0 38 rfl
theorem dX7_init_85 : decode cX7_init 85 = .ok (.bipush 40, 2) := of_row (r := (85, .bipush 40, 2)) DX7_init_b0 39 rfl
theorem dX7_init_87 : decode cX7_init 87 = .ok (.newarray .int, 2) := of_row (r := (87, .newarray .int, 2)) DX7_init_b0 40 rfl
theorem dX7_init_89 : decode cX7_init 89 = .ok (.putfield 38, 3) := of_row (r := (89, .putfield 38, 3)) DX7_init_b0 41 rfl
theorem dX7_init_92 : decode cX7_init 92 = .ok (.aload_n 0, 1) := of_row (r := (92, .aload_n 0, 1)) DX7_init_b0 42 rfl
theorem dX7_init_93 : decode cX7_init 93 = .ok (.bipush 40, 2) := of_row (r := (93, .bipush 40, 2)) DX7_init_b0 43 rfl
theorem dX7_init_95 : decode cX7_init 95 = .ok (.newarray .int, 2) := of_row (r := (95, .newarray .int, 2)) DX7_init_b0 44 rfl
theorem dX7_init_97 : decode cX7_init 97 = .ok (.putfield 41, 3) := of_row (r := (97, .putfield 41, 3)) DX7_init_b0 45 rfl
theorem dX7_init_100 : decode cX7_init 100 = .ok (.aload_n 0, 1) := of_row (r := (100, .aload_n 0, 1)) DX7_init_b0 46 rfl
theorem dX7_init_101 : decode cX7_init 101 = .ok (.bipush 8, 2) := of_row (r := (101, .bipush 8, 2)) DX7_init_b0 47 rfl
theorem dX7_init_103 : decode cX7_init 103 = .ok (.newarray .int, 2) := of_row (r := (103, .newarray .int, 2)) DX7_init_b0 48 rfl
theorem dX7_init_105 : decode cX7_init 105 = .ok (.putfield 44, 3) := of_row (r := (105, .putfield 44, 3)) DX7_init_b0 49 rfl
theorem dX7_init_108 : decode cX7_init 108 = .ok (.aload_n 0, 1) := of_row (r := (108, .aload_n 0, 1)) DX7_init_b0 50 rfl
theorem dX7_init_109 : decode cX7_init 109 = .ok (.bipush 8, 2) := of_row (r := (109, .bipush 8, 2)) DX7_init_b0 51 rfl
theorem dX7_init_111 : decode cX7_init 111 = .ok (.newarray .int, 2) := of_row (r := (111, .newarray .int, 2)) DX7_init_b0 52 rfl
theorem dX7_init_113 : decode cX7_init 113 = .ok (.dup, 1) := of_row (r := (113, .dup, 1)) DX7_init_b0 53 rfl
theorem dX7_init_114 : decode cX7_init 114 = .ok (.iconst 0, 1) := of_row (r := (114, .iconst 0, 1)) DX7_init_b0 54 rfl
theorem dX7_init_115 : decode cX7_init 115 = .ok (.iconst (-1), 1) := of_row (r := (115, .iconst (-1), 1)) DX7_init_b0 55 rfl
theorem dX7_init_116 : decode cX7_init 116 = .ok (.iastore, 1) := of_row (r := (116, .iastore, 1)) DX7_init_b0 56 rfl
theorem dX7_init_117 : decode cX7_init 117 = .ok (.dup, 1) := of_row (r := (117, .dup, 1)) DX7_init_b0 57 rfl
theorem dX7_init_118 : decode cX7_init 118 = .ok (.iconst 1, 1) := of_row (r := (118, .iconst 1, 1)) DX7_init_b0 58 rfl
theorem dX7_init_119 : decode cX7_init 119 = .ok (.iconst (-1), 1) := of_row (r := (119, .iconst (-1), 1)) DX7_init_b0 59 rfl
set_option maxRecDepth 20000 in
theorem DX7_init_b1 : ([(120, .iastore, 1), (121, .dup, 1), (122, .iconst 2, 1), (123, .iconst (-1), 1), (124, .iastore, 1), (125, .dup, 1), (126, .iconst 3, 1), (127, .iconst (-1), 1), (128, .iastore, 1), (129, .dup, 1), (130, .iconst 4, 1), (131, .iconst (-1), 1), (132, .iastore, 1), (133, .dup, 1), (134, .iconst 5, 1), (135, .iconst (-1), 1), (136, .iastore, 1), (137, .dup, 1), (138, .bipush 6, 2), (140, .iconst (-1), 1), (141, .iastore, 1), (142, .dup, 1), (143, .bipush 7, 2), (145, .iconst (-1), 1), (146, .iastore, 1), (147, .putfield 47, 3), (150, .aload_n 0, 1), (151, .sipush 400, 3), (154, .newarray .int, 2), (156, .putfield 50, 3), (159, .aload_n 0, 1), (160, .sipush 400, 3), (163, .newarray .int, 2), (165, .putfield 53, 3), (168, .aload_n 0, 1), (169, .sipush 400, 3), (172, .newarray .int, 2), (174, .putfield 56, 3), (177, .aload_n 0, 1), (178, .sipush 400, 3), (181, .newarray .int, 2), (183, .putfield 59, 3), (186, .aload_n 0, 1), (187, .sipush 400, 3), (190, .newarray .int, 2), (192, .putfield 62, 3), (195, .aload_n 0, 1), (196, .sipush 400, 3), (199, .newarray .int, 2), (201, .putfield 65, 3), (204, .aload_n 0, 1), (205, .sipush 400, 3), (208, .newarray .int, 2), (210, .putfield 68, 3), (213, .aload_n 0, 1), (214, .bipush 16, 2), (216, .newarray .long, 2), (218, .putfield 71, 3), (221, .aload_n 0, 1), (222, .bipush 16, 2)] : List (Nat × Instr × Nat)).all (fun r => decide (decode cX7_init r.1 = .ok r.2)) = true := by decide +kernel
theorem dX7_init_120 : decode cX7_init 120 = .ok (.iastore, 1) := of_row (r := (120, .iastore, 1)) DX7_init_b1 0 rfl
theorem dX7_init_121 : decode cX7_init 121 = .ok (.dup, 1) := of_row (r := (121, .dup, 1)) DX7_init_b1 1 rfl
theorem dX7_init_122 : decode cX7_init 122 = .ok (.iconst 2, 1) := of_row (r := (122, .iconst 2, 1)) DX7_init_b1 2 rfl
theorem dX7_init_123 : decode cX7_init 123 = .ok (.iconst (-1), 1) := of_row (r := (123, .iconst (-1), 1)) DX7_init_b1 3 rfl
theorem dX7_init_124 : decode cX7_init 124 = .ok (.iastore, 1) := of_row (r := (124, .iastore, 1)) DX7_init_b1 4 rfl
theorem dX7_init_125 : decode cX7_init 125 = .ok (.dup, 1) := of_row (r := (125, .dup, 1)) DX7_init_b1 5 rfl
theorem dX7_init_126 : decode cX7_init 126 = .ok (.iconst 3, 1) := of_row (r := (126, .iconst 3, 1)) DX7_init_b1 6 rfl
theorem dX7_init_127 : decode cX7_init 127 = .ok (.iconst (-1), 1) := of_row (r := (127, .iconst (-1), 1)) DX7_init_b1 7 rfl
theorem dX7_init_128 : decode cX7_init 128 = .ok (.iastore, 1) := of_row (r := (128, .iastore, 1)) DX7_init_b1 8 rfl
theorem dX7_init_129 : decode cX7_init 129 = .ok (.dup, 1) := of_row (r := (129, .dup, 1)) DX7_init_b1 9 rfl
theorem dX7_init_130 : decode cX7_init 130 = .ok (.iconst 4, 1) := of_row (r := (130, .iconst 4, 1)) DX7_init_b1 10 rfl
theorem dX7_init_131 : decode cX7_init 131 = .ok (.iconst (-1), 1) := of_row (r := (131, .iconst (-1), 1)) DX7_init_b1 11 rfl
theorem dX7_init_132 : decode cX7_init 132 = .ok (.iastore, 1) := of_row (r := (132, .iastore, 1)) DX7_init_b1 12 rfl
theorem dX7_init_133 : decode cX7_init 133 = .ok (.dup, 1) := of_row (r := (133, .dup, 1)) DX7_init_b1 13 rfl
theorem dX7_init_134 : decode cX7_init 134 = .ok (.iconst 5, 1) := of_row (r := (134, .iconst 5, 1)) DX7_init_b1 14 rfl
theorem dX7_init_135 : decode cX7_init 135 = .ok (.iconst (-1), 1) := of_row (r := (135, .iconst (-1), 1)) DX7_init_b1 15 rfl
theorem dX7_init_136 : decode cX7_init 136 = .ok (.iastore, 1) := of_row (r := (136, .iastore, 1)) DX7_init_b1 16 rfl
theorem dX7_init_137 : decode cX7_init 137 = .ok (.dup, 1) := of_row (r := (137, .dup, 1)) DX7_init_b1 17 rfl
theorem dX7_init_138 : decode cX7_init 138 = .ok (.bipush 6, 2) := of_row (r := (138, .bipush 6, 2)) DX7_init_b1 18 rfl
theorem dX7_init_140 : decode cX7_init 140 = .ok (.iconst (-1), 1) := of_row (r := (140, .iconst (-1), 1)) DX7_init_b1 19 rfl
theorem dX7_init_141 : decode cX7_init 141 = .ok (.iastore, 1) := of_row (r := (141, .iastore, 1)) DX7_init_b1 20 rfl
theorem dX7_init_142 : decode cX7_init 142 = .ok (.dup, 1) := of_row (r := (142, .dup, 1)) DX7_init_b1 21 rfl
theorem dX7_init_143 : decode cX7_init 143 = .ok (.bipush 7, 2) := of_row (r := (143, .bipush 7, 2)) DX7_init_b1 22 rfl
theorem dX7_init_145 : decode cX7_init 145 = .ok (.iconst (-1), 1) := of_row (r := (145, .iconst (-1), 1)) DX7_init_b1 23 rfl
theorem dX7_init_146 : decode cX7_init 146 = .ok (.iastore, 1) := of_row (r := (146, .iastore, 1)) DX7_init_b1 24 rfl
theorem dX7_init_147 : decode cX7_init 147 = .ok (.putfield 47, 3) := of_row (r := (147, .putfield 47, 3)) DX7_init_b1 25 rfl
theorem dX7_init_150 : decode cX7_init 150 = .ok (.aload_n 0, 1) := of_row (r := (150, .aload_n 0, 1)) DX7_init_b1 26 rfl
theorem dX7_init_151 : decode cX7_init 151 = .ok (.sipush 400, 3) := of_row (r := (151, .sipush 400, 3)) DX7_init_b1 27 rfl
theorem dX7_init_154 : decode cX7_init 154 = .ok (.newarray .int, 2) := of_row (r := (154, .newarray .int, 2)) DX7_init_b1 28 rfl
theorem dX7_init_156 : decode cX7_init 156 = .ok (.putfield 50, 3) := of_row (r := (156, .putfield 50, 3)) DX7_init_b1 29 rfl
theorem dX7_init_159 : decode cX7_init 159 = .ok (.aload_n 0, 1) := of_row (r := (159, .aload_n 0, 1)) DX7_init_b1 30 rfl
theorem dX7_init_160 : decode cX7_init 160 = .ok (.sipush 400, 3) := of_row (r := (160, .sipush 400, 3)) DX7_init_b1 31 rfl
theorem dX7_init_163 : decode cX7_init 163 = .ok (.newarray .int, 2) := of_row (r := (163, .newarray .int, 2)) DX7_init_b1 32 rfl
theorem dX7_init_165 : decode cX7_init 165 = .ok (.putfield 53, 3) := of_row (r := (165, .putfield 53, 3)) DX7_init_b1 33 rfl
theorem dX7_init_168 : decode cX7_init 168 = .ok (.aload_n 0, 1) := of_row (r := (168, .aload_n 0, 1)) DX7_init_b1 34 rfl
theorem dX7_init_169 : decode cX7_init 169 = .ok (.sipush 400, 3) := of_row (r := (169, .sipush 400, 3)) DX7_init_b1 35 rfl
theorem dX7_init_172 : decode cX7_init 172 = .ok (.newarray .int, 2) := of_row (r := (172, .newarray .int, 2)) DX7_init_b1 36 rfl
theorem dX7_init_174 : decode cX7_init 174 = .ok (.putfield 56, 3) := of_row (r := (174, .putfield 56, 3)) DX7_init_b1 37 rfl
theorem dX7_init_177 : decode cX7_init 177 = .ok (.aload_n 0, 1) := of_row (r := (177, .aload_n 0, 1)) DX7_init_b1 38 rfl
theorem dX7_init_178 : decode cX7_init 178 = .ok (.sipush 400, 3) := of_row (r := (178, .sipush 400, 3)) DX7_init_b1 39 rfl
theorem dX7_init_181 : decode cX7_init 181 = .ok (.newarray .int, 2) := of_row (r := (181, .newarray .int, 2)) DX7_init_b1 40 rfl
theorem dX7_init_183 : decode cX7_init 183 = .ok (.putfield 59, 3) := of_row (r := (183, .putfield 59, 3)) DX7_init_b1 41 rfl
theorem dX7_init_186 : decode cX7_init 186 = .ok (.aload_n 0, 1) := of_row (r := (186, .aload_n 0, 1)) DX7_init_b1 42 rfl
theorem dX7_init_187 : decode cX7_init 187 = .ok (.sipush 400, 3) := of_row (r := (187, .sipush 400, 3)) DX7_init_b1 43 rfl
theorem dX7_init_190 : decode cX7_init 190 = .ok (.newarray .int, 2) := of_row (r := (190, .newarray .int, 2)) DX7_init_b1 44 rfl
theorem dX7_init_192 : decode cX7_init 192 = .ok (.putfield 62, 3) := of_row (r := (192, .putfield 62, 3)) DX7_init_b1 45 rfl
theorem dX7_init_195 : decode cX7_init 195 = .ok (.aload_n 0, 1) := of_row (r := (195, .aload_n 0, 1)) DX7_init_b1 46 rfl
theorem dX7_init_196 : decode cX7_init 196 = .ok (.sipush 400, 3) := of_row (r := (196, .sipush 400, 3)) DX7_init_b1 47 rfl
theorem dX7_init_199 : decode cX7_init 199 = .ok (.newarray .int, 2) := of_row (r := (199, .newarray .int, 2)) DX7_init_b1 48 rfl
theorem dX7_init_201 : decode cX7_init 201 = .ok (.putfield 65, 3) := of_row (r := (201, .putfield 65, 3)) DX7_init_b1 49 rfl
theorem dX7_init_204 : decode cX7_init 204 = .ok (.aload_n 0, 1) := of_row (r := (204, .aload_n 0, 1)) DX7_init_b1 50 rfl
theorem dX7_init_205 : decode cX7_init 205 = .ok (.sipush 400, 3) := of_row (r := (205, .sipush 400, 3)) DX7_init_b1 51 rfl
theorem dX7_init_208 : decode cX7_init 208 = .ok (.newarray .int, 2) := of_row (r := (208, .newarray .int, 2)) DX7_init_b1 52 rfl
theorem dX7_init_210 : decode cX7_init 210 = .ok (.putfield 68, 3) := of_row (r := (210, .putfield 68, 3)) DX7_init_b1 53 rfl
theorem dX7_init_213 : decode cX7_init 213 = .ok (.aload_n 0, 1) := of_row (r := (213, .aload_n 0, 1)) DX7_init_b1 54 rfl
theorem dX7_init_214 : decode cX7_init 214 = .ok (.bipush 16, 2) := of_row (r := (214, .bipush 16, 2)) DX7_init_b1 55 rfl
theorem dX7_init_216 : decode cX7_init 216 = .ok (.newarray .long, 2) := of_row (r := (216, .newarray .long, 2)) DX7_init_b1 56 rfl
theorem dX7_init_218 : decode cX7_init 218 = .ok (.putfield 71, 3) := of_row (r := (218, .putfield 71, 3)) DX7_init_b1 57 rfl
theorem dX7_init_221 : decode cX7_init 221 = .ok (.aload_n 0, 1) := of_row (r := (221, .aload_n 0, 1)) DX7_init_b1 58 rfl
theorem dX7_init_222 : decode cX7_init 222 = .ok (.bipush 16, 2) := of_row (r := (222, .bipush 16, 2)) DX7_init_b1 59 rfl
set_option maxRecDepth 20000 in
theorem DX7_init_b2 : ([(224, .newarray .boolean, 2), (226, .putfield 75, 3), (229, .aload_n 0, 1), (230, .bipush 16, 2), (232, .newarray .int, 2), (234, .dup, 1), (235, .iconst 0, 1), (236, .iconst (-1), 1), (237, .iastore, 1), (238, .dup, 1), (239, .iconst 1, 1), (240, .iconst (-1), 1), (241, .iastore, 1), (242, .dup, 1), (243, .iconst 2, 1), (244, .iconst (-1), 1), (245, .iastore, 1), (246, .dup, 1), (247, .iconst 3, 1), (248, .iconst (-1), 1), (249, .iastore, 1), (250, .dup, 1), (251, .iconst 4, 1), (252, .iconst (-1), 1), (253, .iastore, 1), (254, .dup, 1), (255, .iconst 5, 1), (256, .iconst (-1), 1), (257, .iastore, 1), (258, .dup, 1), (259, .bipush 6, 2), (261, .iconst (-1), 1), (262, .iastore, 1), (263, .dup, 1), (264, .bipush 7, 2), (266, .iconst (-1), 1), (267, .iastore, 1), (268, .dup, 1), (269, .bipush 8, 2), (271, .iconst (-1), 1), (272, .iastore, 1), (273, .dup, 1), (274, .bipush 9, 2), (276, .iconst (-1), 1), (277, .iastore, 1), (278, .dup, 1), (279, .bipush 10, 2), (281, .iconst (-1), 1), (282, .iastore, 1), (283, .dup, 1), (284, .bipush 11, 2), (286, .iconst (-1), 1), (287, .iastore, 1), (288, .dup, 1), (289, .bipush 12, 2), (291, .iconst (-1), 1), (292, .iastore, 1), (293, .dup, 1), (294, .bipush 13, 2), (296, .iconst (-1), 1)] : List (Nat × Instr × Nat)).all (fun r => decide (decode cX7_init r.1 = .ok r.2)) = true := by decide +kernel
theorem dX7_init_224 : decode cX7_init 224 = .ok (.newarray .boolean, 2) := of_row (r := (224, .newarray .boolean, 2)) DX7_init_b2 0 rfl
theorem dX7_init_226 : decode cX7_init 226 = .ok (.putfield 75, 3) := of_row (r := (226, .putfield 75, 3)) DX7_init_b2 1 rfl
theorem dX7_init_229 : decode cX7_init 229 = .ok (.aload_n 0, 1) := of_row (r := (229, .aload_n 0, 1)) DX7_init_b2 2 rfl
theorem dX7_init_230 : decode cX7_init 230 = .ok (.bipush 16, 2) := of_row (r := (230, .bipush 16, 2)) DX7_init_b2 3 rfl
theorem dX7_init_232 : decode cX7_init 232 = .ok (.newarray .int, 2) := of_row (r := (232, .newarray .int, 2)) DX7_init_b2 4 rfl
theorem dX7_init_234 : decode cX7_init 234 = .ok (.dup, 1) := of_row (r := (234, .dup, 1)) DX7_init_b2 5 rfl
theorem dX7_init_235 : decode cX7_init 235 = .ok (.iconst 0, 1) := of_row (r := (235, .iconst 0, 1)) DX7_init_b2 6 rfl
theorem dX7_init_236 : decode cX7_init 236 = .ok (.iconst (-1), 1) := of_row (r := (236, .iconst (-1), 1)) DX7_init_b2 7 rfl
theorem dX7_init_237 : decode cX7_init 237 = .ok (.iastore, 1) := of_row (r := (237, .iastore, 1)) DX7_init_b2 8 rfl
theorem dX7_init_238 : decode cX7_init 238 = .ok (.dup, 1) := of_row (r := (238, .dup, 1)) DX7_init_b2 9 rfl
theorem dX7_init_239 : decode cX7_init 239 = .ok (.iconst 1, 1) := of_row (r := (239, .iconst 1, 1)) DX7_init_b2 10 rfl
theorem dX7_init_240 : decode cX7_init 240 = .ok (.iconst (-1), 1) := of_row (r := (240, .iconst (-1), 1)) DX7_init_b2 11 rfl
theorem dX7_init_241 : decode cX7_init 241 = .ok (.iastore, 1) := of_row (r := (241, .iastore, 1)) DX7_init_b2 12 rfl
theorem dX7_init_242 : decode cX7_init 242 = .ok (.dup, 1) := of_row (r := (242, .dup, 1)) DX7_init_b2 13 rfl
theorem dX7_init_243 : decode cX7_init 243 = .ok (.iconst 2, 1) := of_row (r := (243, .iconst 2, 1)) DX7_init_b2 14 rfl
theorem dX7_init_244 : decode cX7_init 244 = .ok (.iconst (-1), 1) := of_row (r := (244, .iconst (-1), 1)) DX7_init_b2 15 rfl
theorem dX7_init_245 : decode cX7_init 245 = .ok (.iastore, 1) := of_row (r := (245, .iastore, 1)) DX7_init_b2 16 rfl
theorem dX7_init_246 : decode cX7_init 246 = .ok (.dup, 1) := of_row (r := (246, .dup, 1)) DX7_init_b2 17 rfl
theorem dX7_init_247 : decode cX7_init 247 = .ok (.iconst 3, 1) := of_row (r := (247, .iconst 3, 1)) DX7_init_b2 18 rfl
theorem dX7_init_248 : decode cX7_init 248 = .ok (.iconst (-1), 1) := of_row (r := (248, .iconst (-1), 1)) DX7_init_b2 19 rfl
theorem dX7_init_249 : decode cX7_init 249 = .ok (.iastore, 1) := of_row (r := (249, .iastore, 1)) DX7_init_b2 20 rfl
theorem dX7_init_250 : decode cX7_init 250 = .ok (.dup, 1) := of_row (r := (250, .dup, 1)) DX7_init_b2 21 rfl
theorem dX7_init_251 : decode cX7_init 251 = .ok (.iconst 4, 1) := of_row (r := (251, .iconst 4, 1)) DX7_init_b2 22 rfl
theorem dX7_init_252 : decode cX7_init 252 = .ok (.iconst (-1), 1) := of_row (r := (252, .iconst (-1), 1)) DX7_init_b2 23 rfl
theorem dX7_init_253 : decode cX7_init 253 = .ok (.iastore, 1) := of_row (r := (253, .iastore, 1)) DX7_init_b2 24 rfl
theorem dX7_init_254 : decode cX7_init 254 = .ok (.dup, 1) := of_row (r := (254, .dup, 1)) DX7_init_b2 25 rfl
theorem dX7_init_255 : decode cX7_init 255 = .ok (.iconst 5, 1) := of_row (r := (255, .iconst 5, 1)) DX7_init_b2 26 rfl
theorem dX7_init_256 : decode cX7_init 256 = .ok (.iconst (-1), 1) := of_row (r := (256, .iconst (-1), 1)) DX7_init_b2 27 rfl
theorem dX7_init_257 : decode cX7_init 257 = .ok (.iastore, 1) := of_row (r := (257, .iastore, 1)) DX7_init_b2 28 rfl
theorem dX7_init_258 : decode cX7_init 258 = .ok (.dup, 1) := of_row (r := (258, .dup, 1)) DX7_init_b2 29 rfl
theorem dX7_init_259 : decode cX7_init 259 = .ok (.bipush 6, 2) := of_row (r := (259, .bipush 6, 2)) DX7_init_b2 30 rfl
theorem dX7_init_261 : decode cX7_init 261 = .ok (.iconst (-1), 1) := of_row (r := (261, .iconst (-1), 1)) DX7_init_b2 31 rfl
theorem dX7_init_262 : decode cX7_init 262 = .ok (.iastore, 1) := of_row (r := (262, .iastore, 1)) DX7_init_b2 32 rfl
theorem dX7_init_263 : decode cX7_init 263 = .ok (.dup, 1) := of_row (r := (263, .dup, 1)) DX7_init_b2 33 rfl
theorem dX7_init_264 : decode cX7_init 264 = .ok (.bipush 7, 2) := of_row (r := (264, .bipush 7, 2)) DX7_init_b2 34 rfl
theorem dX7_init_266 : decode cX7_init 266 = .ok (.iconst (-1), 1) := of_row (r := (266, .iconst (-1), 1)) DX7_init_b2 35 rfl
theorem dX7_init_267 : decode cX7_init 267 = .ok (.iastore, 1) := of_row (r := (267, .iastore, 1)) DX7_init_b2 36 rfl
theorem dX7_init_268 : decode cX7_init 268 = .ok (.dup, 1) := of_row (r := (268, .dup, 1)) DX7_init_b2 37 rfl
theorem dX7_init_269 : decode cX7_init 269 = .ok (.bipush 8, 2) := of_row (r := (269, .bipush 8, 2)) DX7_init_b2 38 rfl
theorem dX7_init_271 : decode cX7_init 271 = .ok (.iconst (-1), 1) := of_row (r := (271, .iconst (-1), 1)) DX7_init_b2 39 rfl
theorem dX7_init_272 : decode cX7_init 272 = .ok (.iastore, 1) := of_row (r := (272, .iastore, 1)) DX7_init_b2 40 rfl
theorem dX7_init_273 : decode cX7_init 273 = .ok (.dup, 1) := of_row (r := (273, .dup, 1)) DX7_init_b2 41 rfl
theorem dX7_init_274 : decode cX7_init 274 = .ok (.bipush 9, 2) := of_row (r := (274, .bipush 9, 2)) DX7_init_b2 42 rfl
theorem dX7_init_276 : decode cX7_init 276 = .ok (.iconst (-1), 1) := of_row (r := (276, .iconst (-1), 1)) DX7_init_b2 43 rfl
theorem dX7_init_277 : decode cX7_init 277 = .ok (.iastore, 1) := of_row (r := (277, .iastore, 1)) DX7_init_b2 44 rfl
theorem dX7_init_278 : decode cX7_init 278 = .ok (.dup, 1) := of_row (r := (278, .dup, 1)) DX7_init_b2 45 rfl
theorem dX7_init_279 : decode cX7_init 279 = .ok (.bipush 10, 2) := of_row (r := (279, .bipush 10, 2)) DX7_init_b2 46 rfl
theorem dX7_init_281 : decode cX7_init 281 = .ok (.iconst (-1), 1) := of_row (r := (281, .iconst (-1), 1)) DX7_init_b2 47 rfl
theorem dX7_init_282 : decode cX7_init 282 = .ok (.iastore, 1) := of_row (r := (282, .iastore, 1)) DX7_init_b2 48 rfl
theorem dX7_init_283 : decode cX7_init 283 = .ok (.dup, 1) := of_row (r := (283, .dup, 1)) DX7_init_b2 49 rfl
theorem dX7_init_284 : decode cX7_init 284 = .ok (.bipush 11, 2) := of_row (r := (284, .bipush 11, 2)) DX7_init_b2 50 rfl
theorem dX7_init_286 : decode cX7_init 286 = .ok (.iconst (-1), 1) := of_row (r := (286, .iconst (-1), 1)) DX7_init_b2 51 rfl
theorem dX7_init_287 : decode cX7_init 287 = .ok (.iastore, 1) := of_row (r := (287, .iastore, 1)) DX7_init_b2 52 rfl
theorem dX7_init_288 : decode cX7_init 288 = .ok (.dup, 1) := of_row (r := (288, .dup, 1)) DX7_init_b2 53 rfl
theorem dX7_init_289 : decode cX7_init 289 = .ok (.bipush 12, 2) := of_row (r := (289, .bipush 12, 2)) DX7_init_b2 54 rfl
theorem dX7_init_291 : decode cX7_init 291 = .ok (.iconst (-1), 1) := of_row (r := (291, .iconst (-1), 1)) DX7_init_b2 55 rfl
theorem dX7_init_292 : decode cX7_init 292 = .ok (.iastore, 1) := of_row (r := (292, .iastore, 1)) DX7_init_b2 56 rfl
theorem dX7_init_293 : decode cX7_init 293 = .ok (.dup, 1) := of_row (r := (293, .dup, 1)) DX7_init_b2 57 rfl
theorem dX7_init_294 : decode cX7_init 294 = .ok (.bipush 13, 2) := of_row (r := (294, .bipush 13, 2)) DX7_init_b2 58 rfl
theorem dX7_init_296 : decode cX7_init 296 = .ok (.iconst (-1), 1) := of_row (r := (296, .iconst (-1), 1)) DX7_init_b2 59 rfl
set_option maxRecDepth 20000 in
theorem DX7_init_b3 : ([(297, .iastore, 1), (298, .dup, 1), (299, .bipush 14, 2), (301, .iconst (-1), 1), (302, .iastore, 1), (303, .dup, 1), (304, .bipush 15, 2), (306, .iconst (-1), 1), (307, .iastore, 1), (308, .putfield 79, 3), (311, .aload_n 0, 1), (312, .sipush 400, 3), (315, .newarray .long, 2), (317, .putfield 82, 3), (320, .aload_n 0, 1), (321, .sipush 4000, 3), (324, .newarray .int, 2), (326, .putfield 85, 3), (329, .aload_n 0, 1), (330, .sipush 4000, 3), (333, .newarray .int, 2), (335, .putfield 88, 3), (338, .aload_n 0, 1), (339, .sipush 4000, 3), (342, .newarray .int, 2), (344, .putfield 91, 3), (347, .aload_n 0, 1), (348, .sipush 4000, 3), (351, .newarray .int, 2), (353, .putfield 94, 3), (356, .aload_n 0, 1), (357, .sipush 4000, 3), (360, .newarray .int, 2), (362, .putfield 97, 3), (365, .aload_n 0, 1), (366, .sipush 4000, 3), (369, .newarray .int, 2), (371, .putfield 100, 3), (374, .aload_n 0, 1), (375, .sipush 4000, 3), (378, .newarray .int, 2), (380, .putfield 103, 3), (383, .aload_n 0, 1), (384, .sipush 4000, 3), (387, .newarray .int, 2), (389, .putfield 106, 3), (392, .aload_n 0, 1), (393, .sipush 4000, 3), (396, .newarray .int, 2), (398, .putfield 109, 3), (401, .aload_n 0, 1), (402, .sipush 2000, 3), (405, .newarray .int, 2), (407, .putfield 112, 3), (410, .aload_n 0, 1), (411, .sipush 400, 3), (414, .newarray .boolean, 2), (416, .putfield 115, 3), (419, .aload_n 0, 1), (420, .bipush 6, 2)] : List (Nat × Instr × Nat)).all (fun r => decide (decode cX7_init r.1 = .ok r.2)) = true := by decide +kernel
theorem dX7_init_297 : decode cX7_init 297 = .ok (.iastore, 1) := of_row (r := (297, .iastore, 1)) DX7_init_b3 0 rfl
theorem dX7_init_298 : decode cX7_init 298 = .ok (.dup, 1) := of_row (r := (298, .dup, 1)) DX7_init_b3 1 rfl
theorem dX7_init_299 : decode cX7_init 299 = .ok (.bipush 14, 2) := of_row (r := (299, .bipush 14, 2)) DX7_init_b3 2 rfl
theorem dX7_init_301 : decode cX7_init 301 = .ok (.iconst (-1), 1) := of_row (r := (301, .iconst (-1), 1)) DX7_init_b3 3 rfl
theorem dX7_init_302 : decode cX7_init 302 = .ok (.iastore, 1) := of_row (r := (302, .iastore, 1)) DX7_init_b3 4 rfl
theorem dX7_init_303 : decode cX7_init 303 = .ok (.dup, 1) := of_row (r := (303, .dup, 1)) DX7_init_b3 5 rfl
theorem dX7_init_304 : decode cX7_init 304 = .ok (.bipush 15, 2) := of_row (r := (304, .bipush 15, 2)) DX7_init_b3 6 rfl
theorem dX7_init_306 : decode cX7_init 306 = .ok (.iconst (-1), 1) := of_row (r := (306, .iconst (-1), 1)) DX7_init_b3 7 rfl
theorem dX7_init_307 : decode cX7_init 307 = .ok (.iastore, 1) := of_row (r := (307, .iastore, 1)) DX7_init_b3 8 rfl
theorem dX7_init_308 : decode cX7_init 308 = .ok (.putfield 79, 3) := of_row (r := (308, .putfield 79, 3)) DX7_init_b3 9 rfl
theorem dX7_init_311 : decode cX7_init 311 = .ok (.aload_n 0, 1) := of_row (r := (311, .aload_n 0, 1)) DX7_init_b3 10 rfl
theorem dX7_init_312 : decode cX7_init 312 = .ok (.sipush 400, 3) := of_row (r := (312, .sipush 400, 3)) DX7_init_b3 11 rfl
theorem dX7_init_315 : decode cX7_init 315 = .ok (.newarray .long, 2) := of_row (r := (315, .newarray .long, 2)) DX7_init_b3 12 rfl
theorem dX7_init_317 : decode cX7_init 317 = .ok (.putfield 82, 3) := of_row (r := (317, .putfield 82, 3)) DX7_init_b3 13 rfl
theorem dX7_init_320 : decode cX7_init 320 = .ok (.aload_n 0, 1) := of_row (r := (320, .aload_n 0, 1)) DX7_init_b3 14 rfl
theorem dX7_init_321 : decode cX7_init 321 = .ok (.sipush 4000, 3) := of_row (r := (321, .sipush 4000, 3)) DX7_init_b3 15 rfl
theorem dX7_init_324 : decode cX7_init 324 = .ok (.newarray .int, 2) := of_row (r := (324, .newarray .int, 2)) DX7_init_b3 16 rfl
theorem dX7_init_326 : decode cX7_init 326 = .ok (.putfield 85, 3) := of_row (r := (326, .putfield 85, 3)) DX7_init_b3 17 rfl
theorem dX7_init_329 : decode cX7_init 329 = .ok (.aload_n 0, 1) := of_row (r := (329, .aload_n 0, 1)) DX7_init_b3 18 rfl
theorem dX7_init_330 : decode cX7_init 330 = .ok (.sipush 4000, 3) := of_row (r := (330, .sipush 4000, 3)) DX7_init_b3 19 rfl
theorem dX7_init_333 : decode cX7_init 333 = .ok (.newarray .int, 2) := of_row (r := (333, .newarray .int, 2)) DX7_init_b3 20 rfl
theorem dX7_init_335 : decode cX7_init 335 = .ok (.putfield 88, 3) := of_row (r := (335, .putfield 88, 3)) DX7_init_b3 21 rfl
theorem dX7_init_338 : decode cX7_init 338 = .ok (.aload_n 0, 1) := of_row (r := (338, .aload_n 0, 1)) DX7_init_b3 22 rfl
theorem dX7_init_339 : decode cX7_init 339 = .ok (.sipush 4000, 3) := of_row (r := (339, .sipush 4000, 3)) DX7_init_b3 23 rfl
theorem dX7_init_342 : decode cX7_init 342 = .ok (.newarray .int, 2) := of_row (r := (342, .newarray .int, 2)) DX7_init_b3 24 rfl
theorem dX7_init_344 : decode cX7_init 344 = .ok (.putfield 91, 3) := of_row (r := (344, .putfield 91, 3)) DX7_init_b3 25 rfl
theorem dX7_init_347 : decode cX7_init 347 = .ok (.aload_n 0, 1) := of_row (r := (347, .aload_n 0, 1)) DX7_init_b3 26 rfl
theorem dX7_init_348 : decode cX7_init 348 = .ok (.sipush 4000, 3) := of_row (r := (348, .sipush 4000, 3)) DX7_init_b3 27 rfl
theorem dX7_init_351 : decode cX7_init 351 = .ok (.newarray .int, 2) := of_row (r := (351, .newarray .int, 2)) DX7_init_b3 28 rfl
theorem dX7_init_353 : decode cX7_init 353 = .ok (.putfield 94, 3) := of_row (r := (353, .putfield 94, 3)) DX7_init_b3 29 rfl
theorem dX7_init_356 : decode cX7_init 356 = .ok (.aload_n 0, 1) := of_row (r := (356, .aload_n 0, 1)) DX7_init_b3 30 rfl
theorem dX7_init_357 : decode cX7_init 357 = .ok (.sipush 4000, 3) := of_row (r := (357, .sipush 4000, 3)) DX7_init_b3 31 rfl
theorem dX7_init_360 : decode cX7_init 360 = .ok (.newarray .int, 2) := of_row (r := (360, .newarray .int, 2)) DX7_init_b3 32 rfl
theorem dX7_init_362 : decode cX7_init 362 = .ok (.putfield 97, 3) := of_row (r := (362, .putfield 97, 3)) DX7_init_b3 33 rfl
theorem dX7_init_365 : decode cX7_init 365 = .ok (.aload_n 0, 1) := of_row (r := (365, .aload_n 0, 1)) DX7_init_b3 34 rfl
theorem dX7_init_366 : decode cX7_init 366 = .ok (.sipush 4000, 3) := of_row (r := (366, .sipush 4000, 3)) DX7_init_b3 35 rfl
theorem dX7_init_369 : decode cX7_init 369 = .ok (.newarray .int, 2) := of_row (r := (369, .newarray .int, 2)) DX7_init_b3 36 rfl
theorem dX7_init_371 : decode cX7_init 371 = .ok (.putfield 100, 3) := of_row (r := (371, .putfield 100, 3)) DX7_init_b3 37 rfl
theorem dX7_init_374 : decode cX7_init 374 = .ok (.aload_n 0, 1) := of_row (r := (374, .aload_n 0, 1)) DX7_init_b3 38 rfl
theorem dX7_init_375 : decode cX7_init 375 = .ok (.sipush 4000, 3) := of_row (r := (375, .sipush 4000, 3)) DX7_init_b3 39 rfl
theorem dX7_init_378 : decode cX7_init 378 = .ok (.newarray .int, 2) := of_row (r := (378, .newarray .int, 2)) DX7_init_b3 40 rfl
theorem dX7_init_380 : decode cX7_init 380 = .ok (.putfield 103, 3) := of_row (r := (380, .putfield 103, 3)) DX7_init_b3 41 rfl
theorem dX7_init_383 : decode cX7_init 383 = .ok (.aload_n 0, 1) := of_row (r := (383, .aload_n 0, 1)) DX7_init_b3 42 rfl
theorem dX7_init_384 : decode cX7_init 384 = .ok (.sipush 4000, 3) := of_row (r := (384, .sipush 4000, 3)) DX7_init_b3 43 rfl
theorem dX7_init_387 : decode cX7_init 387 = .ok (.newarray .int, 2) := of_row (r := (387, .newarray .int, 2)) DX7_init_b3 44 rfl
theorem dX7_init_389 : decode cX7_init 389 = .ok (.putfield 106, 3) := of_row (r := (389, .putfield 106, 3)) DX7_init_b3 45 rfl
theorem dX7_init_392 : decode cX7_init 392 = .ok (.aload_n 0, 1) := of_row (r := (392, .aload_n 0, 1)) DX7_init_b3 46 rfl
theorem dX7_init_393 : decode cX7_init 393 = .ok (.sipush 4000, 3) := of_row (r := (393, .sipush 4000, 3)) DX7_init_b3 47 rfl
theorem dX7_init_396 : decode cX7_init 396 = .ok (.newarray .int, 2) := of_row (r := (396, .newarray .int, 2)) DX7_init_b3 48 rfl
theorem dX7_init_398 : decode cX7_init 398 = .ok (.putfield 109, 3) := of_row (r := (398, .putfield 109, 3)) DX7_init_b3 49 rfl
theorem dX7_init_401 : decode cX7_init 401 = .ok (.aload_n 0, 1) := of_row (r := (401, .aload_n 0, 1)) DX7_init_b3 50 rfl
theorem dX7_init_402 : decode cX7_init 402 = .ok (.sipush 2000, 3) := of_row (r := (402, .sipush 2000, 3)) DX7_init_b3 51 rfl
theorem dX7_init_405 : decode cX7_init 405 = .ok (.newarray .int, 2) := of_row (r := (405, .newarray .int, 2)) DX7_init_b3 52 rfl
theorem dX7_init_407 : decode cX7_init 407 = .ok (.putfield 112, 3) := of_row (r := (407, .putfield 112, 3)) DX7_init_b3 53 rfl
theorem dX7_init_410 : decode cX7_init 410 = .ok (.aload_n 0, 1) := of_row (r := (410, .aload_n 0, 1)) DX7_init_b3 54 rfl
theorem dX7_init_411 : decode cX7_init 411 = .ok (.sipush 400, 3) := of_row (r := (411, .sipush 400, 3)) DX7_init_b3 55 rfl
theorem dX7_init_414 : decode cX7_init 414 = .ok (.newarray .boolean, 2) := of_row (r := (414, .newarray .boolean, 2)) DX7_init_b3 56 rfl
theorem dX7_init_416 : decode cX7_init 416 = .ok (.putfield 115, 3) := of_row (r := (416, .putfield 115, 3)) DX7_init_b3 57 rfl
theorem dX7_init_419 : decode cX7_init 419 = .ok (.aload_n 0, 1) := of_row (r := (419, .aload_n 0, 1)) DX7_init_b3 58 rfl
theorem dX7_init_420 : decode cX7_init 420 = .ok (.bipush 6, 2) := of_row (r := (420, .bipush 6, 2)) DX7_init_b3 59 rfl
set_option maxRecDepth 20000 in
theorem DX7_init_b4 : ([(422, .newarray .int, 2), (424, .putfield 118, 3), (427, .return_, 1)] : List (Nat × Instr × Nat)).all (fun r => decide (decode cX7_init r.1 = .ok r.2)) = true := by decide +kernel
theorem dX7_init_422 : decode cX7_init 422 = .ok (.newarray .int, 2) := of_row (r := (422, .newarray .int, 2)) DX7_init_b4 0 rfl
theorem dX7_init_424 : decode cX7_init 424 = .ok (.putfield 118, 3) := of_row (r := (424, .putfield 118, 3)) DX7_init_b4 1 rfl
theorem dX7_init_427 : decode cX7_init 427 = .ok (.return_, 1) := of_row (r := (427, .return_, 1)) DX7_init_b4 2 rfl
set_option maxRecDepth 20000 in
theorem DX7_in_b0 : ([(0, .iload_n 0, 1), (1, .iload_n 1, 1), (2, .if_icmp .lt 12, 3), (5, .iload_n 0, 1), (6, .iload_n 2, 1), (7, .if_icmp .gt 7, 3), (10, .iconst 1, 1), (11, .goto 4, 3), (14, .iconst 0, 1), (15, .ireturn, 1)] : List (Nat × Instr × Nat)).all (fun r => decide (decode cX7_in r.1 = .ok r.2)) = true := by decide +kernel
theorem dX7_in_0 : decode cX7_in 0 = .ok (.iload_n 0, 1) := of_row (r := (0, .iload_n 0, 1)) DX7_in_b0 0 rfl
theorem dX7_in_1 : decode cX7_in 1 = .ok (.iload_n 1, 1) := of_row (r := (1, .iload_n 1, 1)) DX7_in_b0 1 rfl
theorem dX7_in_2 : decode cX7_in 2 = .ok (.if_icmp .lt 12, 3) := of_row (r := (2, .if_icmp .lt 12, 3)) DX7_in_b0 2 rfl
theorem dX7_in_5 : decode cX7_in 5 = .ok (.iload_n 0, 1) := of_row (r := (5, .iload_n 0, 1)) DX7_in_b0 3 rfl
theorem dX7_in_6 : decode cX7_in 6 = .ok (.iload_n 2, 1) := of_row (r := (6, .iload_n 2, 1)) DX7_in_b0 4 rfl
theorem dX7_in_7 : decode cX7_in 7 = .ok (.if_icmp .gt 7, 3) := of_row (r := (7, .if_icmp .gt 7, 3)) DX7_in_b0 5 rfl
theorem dX7_in_10 : decode cX7_in 10 = .ok (.iconst 1, 1) := of_row (r := (10, .iconst 1, 1)) DX7_in_b0 6 rfl
theorem dX7_in_11 : decode cX7_in 11 = .ok (.goto 4, 3) := of_row (r := (11, .goto 4, 3)) DX7_in_b0 7 rfl
theorem dX7_in_14 : decode cX7_in 14 = .ok (.iconst 0, 1) := of_row (r := (14, .iconst 0, 1)) DX7_in_b0 8 rfl
theorem dX7_in_15 : decode cX7_in 15 = .ok (.ireturn, 1) := of_row (r := (15, .ireturn, 1)) DX7_in_b0 9 rfl
set_option maxRecDepth 20000 in
theorem DX7_feed_b0 : ([(0, .aload_n 0, 1), (1, .getfield 125, 3), (4, .bipush 20, 2), (6, .iadd, 1), (7, .sipush 800, 3), (10, .if_icmp .le 6, 3), (13, .bipush (-3), 2), (15, .ireturn, 1), (16, .aload_n 0, 1), (17, .iload_n 1, 1), (18, .invokevirtual 128, 3), (21, .aload_n 0, 1), (22, .iload_n 2, 1), (23, .invokevirtual 128, 3), (26, .aload_n 0, 1), (27, .iload_n 3, 1), (28, .invokevirtual 128, 3), (31, .aload_n 0, 1), (32, .iload 4, 2), (34, .invokevirtual 128, 3), (37, .aload_n 0, 1), (38, .iload 5, 2), (40, .invokevirtual 128, 3), (43, .aload_n 0, 1), (44, .getfield 125, 3), (47, .ireturn, 1)] : List (Nat × Instr × Nat)).all (fun r => decide (decode cX7_feed r.1 = .ok r.2)) = true := by decide +kernel
theorem dX7_feed_0 : decode cX7_feed 0 = .ok (.aload_n 0, 1) := of_row (r := (0, .aload_n 0, 1)) DX7_feed_b0 0 rfl
theorem dX7_feed_1 : decode cX7_feed 1 = .ok (.getfield 125, 3) := of_row (r := (1, .getfield 125, 3)) DX7_feed_b0 1 rfl
theorem dX7_feed_4 : decode cX7_feed 4 = .ok (.bipush 20, 2) := of_row (r := (4, .bipush 20, 2)) DX7_feed_b0 2 rfl
theorem dX7_feed_6 : decode cX7_feed 6 = .ok (.iadd, 1) := of_row (r := (6, .iadd, 1)) DX7_feed_b0 3 rfl
theorem dX7_feed_7 : decode cX7_feed 7 = .ok (.sipush 800, 3) := of_row (r := (7, .sipush 800, 3)) DX7_feed_b0 4 rfl
theorem dX7_feed_10 : decode cX7_feed 10 = .ok (.if_icmp .le 6, 3) := of_row (r := (10, .if_icmp .le 6, 3)) DX7_feed_b0 5 rfl
theorem dX7_feed_13 : decode cX7_feed 13 = .ok (.bipush (-3), 2) := of_row (r := (13, .bipush (-3), 2)) DX7_feed_b0 6 rfl
theorem dX7_feed_15 : decode cX7_feed 15 = .ok (.ireturn, 1) := of_row (r := (15, .ireturn, 1)) DX7_feed_b0 7 rfl
theorem dX7_feed_16 : decode cX7_feed 16 = .ok (.aload_n 0, 1) := of_row (r := (16, .aload_n 0, 1)) DX7_feed_b0 8 rfl
theorem dX7_feed_17 : decode cX7_feed 17 = .ok (.iload_n 1, 1) := of_row (r := (17, .iload_n 1, 1)) DX7_feed_b0 9 rfl
theorem dX7_feed_18 : decode cX7_feed 18 = .ok (.invokevirtual 128, 3) := of_row (r := (18, .invokevirtual 128, 3)) DX7_feed_b0 10 rfl
theorem dX7_feed_21 : decode cX7_feed 21 = .ok (.aload_n 0, 1) := of_row (r := (21, .aload_n 0, 1)) DX7_feed_b0 11 rfl
theorem dX7_feed_22 : decode cX7_feed 22 = .ok (.iload_n 2, 1) := of_row (r := (22, .iload_n 2, 1)) DX7_feed_b0 12 rfl
theorem dX7_feed_23 : decode cX7_feed 23 = .ok (.invokevirtual 128, 3) := of_row (r := (23, .invokevirtual 128, 3)) DX7_feed_b0 13 rfl
theorem dX7_feed_26 : decode cX7_feed 26 = .ok (.aload_n 0, 1) := of_row (r := (26, .aload_n 0, 1)) DX7_feed_b0 14 rfl
theorem dX7_feed_27 : decode cX7_feed 27 = .ok (.iload_n 3, 1) := of_row (r := (27, .iload_n 3, 1)) DX7_feed_b0 15 rfl
theorem dX7_feed_28 : decode cX7_feed 28 = .ok (.invokevirtual 128, 3) := of_row (r := (28, .invokevirtual 128, 3)) DX7_feed_b0 16 rfl
theorem dX7_feed_31 : decode cX7_feed 31 = .ok (.aload_n 0, 1) := of_row (r := (31, .aload_n 0, 1)) DX7_feed_b0 17 rfl
theorem dX7_feed_32 : decode cX7_feed 32 = .ok (.iload 4, 2) := of_row (r := (32, .iload 4, 2)) DX7_feed_b0 18 rfl
theorem dX7_feed_34 : decode cX7_feed 34 = .ok (.invokevirtual 128, 3) := of_row (r := (34, .invokevirtual 128, 3)) DX7_feed_b0 19 rfl
theorem dX7_feed_37 : decode cX7_feed 37 = .ok (.aload_n 0, 1) := of_row (r := (37, .aload_n 0, 1)) DX7_feed_b0 20 rfl
theorem dX7_feed_38 : decode cX7_feed 38 = .ok (.iload 5, 2) := of_row (r := (38, .iload 5, 2)) DX7_feed_b0 21 rfl
theorem dX7_feed_40 : decode cX7_feed 40 = .ok (.invokevirtual 128, 3) := of_row (r := (40, .invokevirtual 128, 3)) DX7_feed_b0 22 rfl
theorem dX7_feed_43 : decode cX7_feed 43 = .ok (.aload_n 0, 1) := of_row (r := (43, .aload_n 0, 1)) DX7_feed_b0 23 rfl
theorem dX7_feed_44 : decode cX7_feed 44 = .ok (.getfield 125, 3) := of_row (r := (44, .getfield 125, 3)) DX7_feed_b0 24 rfl
theorem dX7_feed_47 : decode cX7_feed 47 = .ok (.ireturn, 1) := of_row (r := (47, .ireturn, 1)) DX7_feed_b0 25 rfl
set_option maxRecDepth 20000 in
theorem DX7_bytes_b0 : ([(0, .iconst 3, 1), (1, .istore_n 2, 1), (2, .iload_n 2, 1), (3, .ifCond .lt 35, 3), (6, .aload_n 0, 1), (7, .getfield 7, 3), (10, .aload_n 0, 1), (11, .getfield 125, 3), (14, .iload_n 1, 1), (15, .bipush 8, 2), (17, .iload_n 2, 1), (18, .imul, 1), (19, .ishr, 1), (20, .i2b, 1), (21, .bastore, 1), (22, .aload_n 0, 1), (23, .dup, 1), (24, .getfield 125, 3), (27, .iconst 1, 1), (28, .iadd, 1), (29, .putfield 125, 3), (32, .iinc 2 (-1), 3), (35, .goto (-33), 3), (38, .return_, 1)] : List (Nat × Instr × Nat)).all (fun r => decide (decode cX7_bytes r.1 = .ok r.2)) = true := by decide +kernel
theorem dX7_bytes_0 : decode cX7_bytes 0 = .ok (.iconst 3, 1) := of_row (r := (0, .iconst 3, 1)) DX7_bytes_b0 0 rfl
theorem dX7_bytes_1 : decode cX7_bytes 1 = .ok (.istore_n 2, 1) := of_row (r := (1, .istore_n 2, 1)) DX7_bytes_b0 1 rfl
theorem dX7_bytes_2 : decode cX7_bytes 2 = .ok (.iload_n 2, 1) := of_row (r := (2, .iload_n 2, 1)) DX7_bytes_b0 2 rfl
theorem dX7_bytes_3 : decode cX7_bytes 3 = .ok (.ifCond .lt 35, 3) := of_row (r := (3, .ifCond .lt 35, 3)) DX7_bytes_b0 3 rfl
theorem dX7_bytes_6 : decode cX7_bytes 6 = .ok (.aload_n 0, 1) := of_row (r := (6, .aload_n 0, 1)) DX7_bytes_b0 4 rfl
theorem dX7_bytes_7 : decode cX7_bytes 7 = .ok (.getfield 7, 3) := of_row (r := (7, .getfield 7, 3)) DX7_bytes_b0 5 rfl
theorem dX7_bytes_10 : decode cX7_bytes 10 = .ok (.aload_n 0, 1) := of_row (r := (10, .aload_n 0, 1)) DX7_bytes_b0 6 rfl
theorem dX7_bytes_11 : decode cX7_bytes 11 = .ok (.getfield 125, 3) := of_row (r := (11, .getfield 125, 3)) DX7_bytes_b0 7 rfl
theorem dX7_bytes_14 : decode cX7_bytes 14 = .ok (.iload_n 1, 1) := of_row (r := (14, .iload_n 1, 1)) DX7_bytes_b0 8 rfl
theorem dX7_bytes_15 : decode cX7_bytes 15 = .ok (.bipush 8, 2) := of_row (r := (15, .bipush 8, 2)) DX7_bytes_b0 9 rfl
theorem dX7_bytes_17 : decode cX7_bytes 17 = .ok (.iload_n 2, 1) := of_row (r := (17, .iload_n 2, 1)) DX7_bytes_b0 10 rfl
theorem dX7_bytes_18 : decode cX7_bytes 18 = .ok (.imul, 1) := of_row (r := (18, .imul, 1)) DX7_bytes_b0 11 rfl
theorem dX7_bytes_19 : decode cX7_bytes 19 = .ok (.ishr, 1) := of_row (r := (19, .ishr, 1)) DX7_bytes_b0 12 rfl
theorem dX7_bytes_20 : decode cX7_bytes 20 = .ok (.i2b, 1) := of_row (r := (20, .i2b, 1)) DX7_bytes_b0 13 rfl
theorem dX7_bytes_21 : decode cX7_bytes 21 = .ok (.bastore, 1) := of_row (r := (21, .bastore, 1)) DX7_bytes_b0 14 rfl
theorem dX7_bytes_22 : decode cX7_bytes 22 = .ok (.aload_n 0, 1) := of_row (r := (22, .aload_n 0, 1)) DX7_bytes_b0 15 rfl
theorem dX7_bytes_23 : decode cX7_bytes 23 = .ok (.dup, 1) := of_row (r := (23, .dup, 1)) DX7_bytes_b0 16 rfl
theorem dX7_bytes_24 : decode cX7_bytes 24 = .ok (.getfield 125, 3) := of_row (r := (24, .getfield 125, 3)) DX7_bytes_b0 17 rfl
theorem dX7_bytes_27 : decode cX7_bytes 27 = .ok (.iconst 1, 1) := of_row (r := (27, .iconst 1, 1)) DX7_bytes_b0 18 rfl
theorem dX7_bytes_28 : decode cX7_bytes 28 = .ok (.iadd, 1) := of_row (r := (28, .iadd, 1)) DX7_bytes_b0 19 rfl
theorem dX7_bytes_29 : decode cX7_bytes 29 = .ok (.putfield 125, 3) := of_row (r := (29, .putfield 125, 3)) DX7_bytes_b0 20 rfl
theorem dX7_bytes_32 : decode cX7_bytes 32 = .ok (.iinc 2 (-1), 3) := of_row (r := (32, .iinc 2 (-1), 3)) DX7_bytes_b0 21 rfl
theorem dX7_bytes_35 : decode cX7_bytes 35 = .ok (.goto (-33), 3) := of_row (r := (35, .goto (-33), 3)) DX7_bytes_b0 22 rfl
theorem dX7_bytes_38 : decode cX7_bytes 38 = .ok (.return_, 1) := of_row (r := (38, .return_, 1)) DX7_bytes_b0 23 rfl
set_option maxRecDepth 20000 in
theorem DX7_end_b0 : ([(0, .iload_n 1, 1), (1, .iconst 0, 1), (2, .aload_n 0, 1), (3, .getfield 125, 3), (6, .invokestatic 132, 3), (9, .ifCond .ne 5, 3), (12, .iconst (-1), 1), (13, .ireturn, 1), (14, .aload_n 0, 1), (15, .iload_n 1, 1), (16, .putfield 125, 3), (19, .iload_n 1, 1), (20, .ireturn, 1)] : List (Nat × Instr × Nat)).all (fun r => decide (decode cX7_end r.1 = .ok r.2)) = true := by decide +kernel
theorem dX7_end_0 : decode cX7_end 0 = .ok (.iload_n 1, 1) := of_row (r := (0, .iload_n 1, 1)) DX7_end_b0 0 rfl
theorem dX7_end_1 : decode cX7_end 1 = .ok (.iconst 0, 1) := of_row (r := (1, .iconst 0, 1)) DX7_end_b0 1 rfl
theorem dX7_end_2 : decode cX7_end 2 = .ok (.aload_n 0, 1) := of_row (r := (2, .aload_n 0, 1)) DX7_end_b0 2 rfl
theorem dX7_end_3 : decode cX7_end 3 = .ok (.getfield 125, 3) := of_row (r := (3, .getfield 125, 3)) DX7_end_b0 3 rfl
theorem dX7_end_6 : decode cX7_end 6 = .ok (.invokestatic 132, 3) := of_row (r := (6, .invokestatic 132, 3)) DX7_end_b0 4 rfl
theorem dX7_end_9 : decode cX7_end 9 = .ok (.ifCond .ne 5, 3) := of_row (r := (9, .ifCond .ne 5, 3)) DX7_end_b0 5 rfl
theorem dX7_end_12 : decode cX7_end 12 = .ok (.iconst (-1), 1) := of_row (r := (12, .iconst (-1), 1)) DX7_end_b0 6 rfl
theorem dX7_end_13 : decode cX7_end 13 = .ok (.ireturn, 1) := of_row (r := (13, .ireturn, 1)) DX7_end_b0 7 rfl
theorem dX7_end_14 : decode cX7_end 14 = .ok (.aload_n 0, 1) := of_row (r := (14, .aload_n 0, 1)) DX7_end_b0 8 rfl
theorem dX7_end_15 : decode cX7_end 15 = .ok (.iload_n 1, 1) := of_row (r := (15, .iload_n 1, 1)) DX7_end_b0 9 rfl
theorem dX7_end_16 : decode cX7_end 16 = .ok (.putfield 125, 3) := of_row (r := (16, .putfield 125, 3)) DX7_end_b0 10 rfl
theorem dX7_end_19 : decode cX7_end 19 = .ok (.iload_n 1, 1) := of_row (r := (19, .iload_n 1, 1)) DX7_end_b0 11 rfl
theorem dX7_end_20 : decode cX7_end 20 = .ok (.ireturn, 1) := of_row (r := (20, .ireturn, 1)) DX7_end_b0 12 rfl
set_option maxRecDepth 20000 in
theorem DX7_isLetter_b0 : ([(0, .iload_n 0, 1), (1, .bipush 97, 2), (3, .if_icmp .lt 13, 3), (6, .iload_n 0, 1), (7, .bipush 122, 2), (9, .if_icmp .gt 7, 3), (12, .iconst 1, 1), (13, .goto 4, 3), (16, .iconst 0, 1), (17, .ireturn, 1)] : List (Nat × Instr × Nat)).all (fun r => decide (decode cX7_isLetter r.1 = .ok r.2)) = true := by decide +kernel
theorem dX7_isLetter_0 : decode cX7_isLetter 0 = .ok (.iload_n 0, 1) := of_row (r := (0, .iload_n 0, 1)) DX7_isLetter_b0 0 rfl
theorem dX7_isLetter_1 : decode cX7_isLetter 1 = .ok (.bipush 97, 2) := of_row (r := (1, .bipush 97, 2)) DX7_isLetter_b0 1 rfl
theorem dX7_isLetter_3 : decode cX7_isLetter 3 = .ok (.if_icmp .lt 13, 3) := of_row (r := (3, .if_icmp .lt 13, 3)) DX7_isLetter_b0 2 rfl
theorem dX7_isLetter_6 : decode cX7_isLetter 6 = .ok (.iload_n 0, 1) := of_row (r := (6, .iload_n 0, 1)) DX7_isLetter_b0 3 rfl
theorem dX7_isLetter_7 : decode cX7_isLetter 7 = .ok (.bipush 122, 2) := of_row (r := (7, .bipush 122, 2)) DX7_isLetter_b0 4 rfl
theorem dX7_isLetter_9 : decode cX7_isLetter 9 = .ok (.if_icmp .gt 7, 3) := of_row (r := (9, .if_icmp .gt 7, 3)) DX7_isLetter_b0 5 rfl
theorem dX7_isLetter_12 : decode cX7_isLetter 12 = .ok (.iconst 1, 1) := of_row (r := (12, .iconst 1, 1)) DX7_isLetter_b0 6 rfl
theorem dX7_isLetter_13 : decode cX7_isLetter 13 = .ok (.goto 4, 3) := of_row (r := (13, .goto 4, 3)) DX7_isLetter_b0 7 rfl
theorem dX7_isLetter_16 : decode cX7_isLetter 16 = .ok (.iconst 0, 1) := of_row (r := (16, .iconst 0, 1)) DX7_isLetter_b0 8 rfl
theorem dX7_isLetter_17 : decode cX7_isLetter 17 = .ok (.ireturn, 1) := of_row (r := (17, .ireturn, 1)) DX7_isLetter_b0 9 rfl
set_option maxRecDepth 20000 in
theorem DX7_isDigit_b0 : ([(0, .iload_n 0, 1), (1, .bipush 48, 2), (3, .if_icmp .lt 13, 3), (6, .iload_n 0, 1), (7, .bipush 57, 2), (9, .if_icmp .gt 7, 3), (12, .iconst 1, 1), (13, .goto 4, 3), (16, .iconst 0, 1), (17, .ireturn, 1)] : List (Nat × Instr × Nat)).all (fun r => decide (decode cX7_isDigit r.1 = .ok r.2)) = true := by decide +kernel
theorem dX7_isDigit_0 : decode cX7_isDigit 0 = .ok (.iload_n 0, 1) := of_row (r := (0, .iload_n 0, 1)) DX7_isDigit_b0 0 rfl
theorem dX7_isDigit_1 : decode cX7_isDigit 1 = .ok (.bipush 48, 2) := of_row (r := (1, .bipush 48, 2)) DX7_isDigit_b0 1 rfl
theorem dX7_isDigit_3 : decode cX7_isDigit 3 = .ok (.if_icmp .lt 13, 3) := of_row (r := (3, .if_icmp .lt 13, 3)) DX7_isDigit_b0 2 rfl
theorem dX7_isDigit_6 : decode cX7_isDigit 6 = .ok (.iload_n 0, 1) := of_row (r := (6, .iload_n 0, 1)) DX7_isDigit_b0 3 rfl
theorem dX7_isDigit_7 : decode cX7_isDigit 7 = .ok (.bipush 57, 2) := of_row (r := (7, .bipush 57, 2)) DX7_isDigit_b0 4 rfl
theorem dX7_isDigit_9 : decode cX7_isDigit 9 = .ok (.if_icmp .gt 7, 3) := of_row (r := (9, .if_icmp .gt 7, 3)) DX7_isDigit_b0 5 rfl
theorem dX7_isDigit_12 : decode cX7_isDigit 12 = .ok (.iconst 1, 1) := of_row (r := (12, .iconst 1, 1)) DX7_isDigit_b0 6 rfl
theorem dX7_isDigit_13 : decode cX7_isDigit 13 = .ok (.goto 4, 3) := of_row (r := (13, .goto 4, 3)) DX7_isDigit_b0 7 rfl
theorem dX7_isDigit_16 : decode cX7_isDigit 16 = .ok (.iconst 0, 1) := of_row (r := (16, .iconst 0, 1)) DX7_isDigit_b0 8 rfl
theorem dX7_isDigit_17 : decode cX7_isDigit 17 = .ok (.ireturn, 1) := of_row (r := (17, .ireturn, 1)) DX7_isDigit_b0 9 rfl
set_option maxRecDepth 20000 in
theorem DX7_advance_b0 : ([(0, .aload_n 0, 1), (1, .getfield 136, 3), (4, .aload_n 0, 1), (5, .getfield 125, 3), (8, .if_icmp .ge 44, 3), (11, .aload_n 0, 1), (12, .getfield 7, 3), (15, .aload_n 0, 1), (16, .getfield 136, 3), (19, .baload, 1), (20, .bipush 32, 2), (22, .if_icmp .eq 17, 3), (25, .aload_n 0, 1), (26, .getfield 7, 3), (29, .aload_n 0, 1), (30, .getfield 136, 3), (33, .baload, 1), (34, .bipush 10, 2), (36, .if_icmp .ne 16, 3), (39, .aload_n 0, 1), (40, .dup, 1), (41, .getfield 136, 3), (44, .iconst 1, 1), (45, .iadd, 1), (46, .putfield 136, 3), (49, .goto (-49), 3), (52, .aload_n 0, 1), (53, .aload_n 0, 1), (54, .getfield 136, 3), (57, .putfield 139, 3), (60, .aload_n 0, 1), (61, .getfield 136, 3), (64, .aload_n 0, 1), (65, .getfield 125, 3), (68, .if_icmp .ne 9, 3), (71, .aload_n 0, 1), (72, .iconst 0, 1), (73, .putfield 142, 3), (76, .return_, 1), (77, .aload_n 0, 1), (78, .getfield 7, 3), (81, .aload_n 0, 1), (82, .getfield 136, 3), (85, .baload, 1), (86, .istore_n 1, 1), (87, .iload_n 1, 1), (88, .invokestatic 145, 3), (91, .ifCond .eq 92, 3), (94, .lconst 0, 1), (95, .lstore_n 2, 1), (96, .iconst 0, 1), (97, .istore 4, 2), (99, .aload_n 0, 1), (100, .getfield 136, 3), (103, .aload_n 0, 1), (104, .getfield 125, 3), (107, .if_icmp .ge 55, 3), (110, .aload_n 0, 1), (111, .getfield 7, 3), (114, .aload_n 0, 1)] : List (Nat × Instr × Nat)).all (fun r => decide (decode cX7_advance r.1 = .ok r.2)) = true := by decide +kernel
theorem dX7_advance_0 : decode cX7_advance 0 = .ok (.aload_n 0, 1) := of_row (r := (0, .aload_n 0, 1)) DX7_advance_b0 0 rfl
theorem dX7_advance_1 : decode cX7_advance 1 = .ok (.getfield 136, 3) := of_row (r := (1, .getfield 136, 3)) DX7_advance_b0 1 rfl
theorem dX7_advance_4 : decode cX7_advance 4 = .ok (.aload_n 0, 1) := of_row (r := (4, .aload_n 0, 1)) DX7_advance_b0 2 rfl
theorem dX7_advance_5 : decode cX7_advance 5 = .ok (.getfield 125, 3) := of_row (r := (5, .getfield 125, 3)) DX7_advance_b0 3 rfl
theorem dX7_advance_8 : decode cX7_advance 8 = .ok (.if_icmp .ge 44, 3) := of_row (r := (8, .if_icmp .ge 44, 3)) DX7_advance_b0 4 rfl
theorem dX7_advance_11 : decode cX7_advance 11 = .ok (.aload_n 0, 1) := of_row (r := (11, .aload_n 0, 1)) DX7_advance_b0 5 rfl
theorem dX7_advance_12 : decode cX7_advance 12 = .ok (.getfield 7, 3) := of_row (r := (12, .getfield 7, 3)) DX7_advance_b0 6 rfl
theorem dX7_advance_15 : decode cX7_advance 15 = .ok (.aload_n 0, 1) := of_row (r := (15, .aload_n 0, 1)) DX7_advance_b0 7 rfl
theorem dX7_advance_16 : decode cX7_advance 16 = .ok (.getfield 136, 3) := of_row (r := (16, .getfield 136, 3)) DX7_advance_b0 8 rfl
theorem dX7_advance_19 : decode cX7_advance 19 = .ok (.baload, 1) := of_row (r := (19, .baload, 1)) DX7_advance_b0 9 rfl
theorem dX7_advance_20 : decode cX7_advance 20 = .ok (.bipush 32, 2) := of_row (r := (20, .bipush 32, 2)) DX7_advance_b0 10 rfl
theorem dX7_advance_22 : decode cX7_advance 22 = .ok (.if_icmp .eq 17, 3) := of_row (r := (22, .if_icmp .eq 17, 3)) DX7_advance_b0 11 rfl
theorem dX7_advance_25 : decode cX7_advance 25 = .ok (.aload_n 0, 1) := of_row (r := (25, .aload_n 0, 1)) DX7_advance_b0 12 rfl
theorem dX7_advance_26 : decode cX7_advance 26 = .ok (.getfield 7, 3) := of_row (r := (26, .getfield 7, 3)) DX7_advance_b0 13 rfl
theorem dX7_advance_29 : decode cX7_advance 29 = .ok (.aload_n 0, 1) := of_row (r := (29, .aload_n 0, 1)) DX7_advance_b0 14 rfl
theorem dX7_advance_30 : decode cX7_advance 30 = .ok (.getfield 136, 3) := of_row (r := (30, .getfield 136, 3)) DX7_advance_b0 15 rfl
theorem dX7_advance_33 : decode cX7_advance 33 = .ok (.baload, 1) := of_row (r := (33, .baload, 1)) DX7_advance_b0 16 rfl
theorem dX7_advance_34 : decode cX7_advance 34 = .ok (.bipush 10, 2) := of_row (r := (34, .bipush 10, 2)) DX7_advance_b0 17 rfl
theorem dX7_advance_36 : decode cX7_advance 36 = .ok (.if_icmp .ne 16, 3) := of_row (r := (36, .if_icmp .ne 16, 3)) DX7_advance_b0 18 rfl
theorem dX7_advance_39 : decode cX7_advance 39 = .ok (.aload_n 0, 1) := of_row (r := (39, .aload_n 0, 1)) DX7_advance_b0 19 rfl
theorem dX7_advance_40 : decode cX7_advance 40 = .ok (.dup, 1) := of_row (r := (40, .dup, 1)) DX7_advance_b0 20 rfl
theorem dX7_advance_41 : decode cX7_advance 41 = .ok (.getfield 136, 3) := of_row (r := (41, .getfield 136, 3)) DX7_advance_b0 21 rfl
theorem dX7_advance_44 : decode cX7_advance 44 = .ok (.iconst 1, 1) := of_row (r := (44, .iconst 1, 1)) DX7_advance_b0 22 rfl
theorem dX7_advance_45 : decode cX7_advance 45 = .ok (.iadd, 1) := of_row (r := (45, .iadd, 1)) DX7_advance_b0 23 rfl
theorem dX7_advance_46 : decode cX7_advance 46 = .ok (.putfield 136, 3) := of_row (r := (46, .putfield 136, 3)) DX7_advance_b0 24 rfl
theorem dX7_advance_49 : decode cX7_advance 49 = .ok (.goto (-49), 3) := of_row (r := (49, .goto (-49), 3)) DX7_advance_b0 25 rfl
theorem dX7_advance_52 : decode cX7_advance 52 = .ok (.aload_n 0, 1) := of_row (r := (52, .aload_n 0, 1)) DX7_advance_b0 26 rfl
theorem dX7_advance_53 : decode cX7_advance 53 = .ok (.aload_n 0, 1) := of_row (r := (53, .aload_n 0, 1)) DX7_advance_b0 27 rfl
theorem dX7_advance_54 : decode cX7_advance 54 = .ok (.getfield 136, 3) := of_row (r := (54, .getfield 136, 3)) DX7_advance_b0 28 rfl
theorem dX7_advance_57 : decode cX7_advance 57 = .ok (.putfield 139, 3) := of_row (r := (57, .putfield 139, 3)) DX7_advance_b0 29 rfl
theorem dX7_advance_60 : decode cX7_advance 60 = .ok (.aload_n 0, 1) := of_row (r := (60, .aload_n 0, 1)) DX7_advance_b0 30 rfl
theorem dX7_advance_61 : decode cX7_advance 61 = .ok (.getfield 136, 3) := of_row (r := (61, .getfield 136, 3)) DX7_advance_b0 31 rfl
theorem dX7_advance_64 : decode cX7_advance 64 = .ok (.aload_n 0, 1) := of_row (r := (64, .aload_n 0, 1)) DX7_advance_b0 32 rfl
theorem dX7_advance_65 : decode cX7_advance 65 = .ok (.getfield 125, 3) := of_row (r := (65, .getfield 125, 3)) DX7_advance_b0 33 rfl
theorem dX7_advance_68 : decode cX7_advance 68 = .ok (.if_icmp .ne 9, 3) := of_row (r := (68, .if_icmp .ne 9, 3)) DX7_advance_b0 34 rfl
theorem dX7_advance_71 : decode cX7_advance 71 = .ok (.aload_n 0, 1) := of_row (r := (71, .aload_n 0, 1)) DX7_advance_b0 35 rfl
theorem dX7_advance_72 : decode cX7_advance 72 = .ok (.iconst 0, 1) := of_row (r := (72, .iconst 0, 1)) DX7_advance_b0 36 rfl
theorem dX7_advance_73 : decode cX7_advance 73 = .ok (.putfield 142, 3) := of_row (r := (73, .putfield 142, 3)) DX7_advance_b0 37 rfl
theorem dX7_advance_76 : decode cX7_advance 76 = .ok (.return_, 1) := of_row (r := (76, .return_, 1)) DX7_advance_b0 38 rfl
theorem dX7_advance_77 : decode cX7_advance 77 = .ok (.aload_n 0, 1) := of_row (r := (77, .aload_n 0, 1)) DX7_advance_b0 39 rfl
theorem dX7_advance_78 : decode cX7_advance 78 = .ok (.getfield 7, 3) := of_row (r := (78, .getfield 7, 3)) DX7_advance_b0 40 rfl
theorem dX7_advance_81 : decode cX7_advance 81 = .ok (.aload_n 0, 1) := of_row (r := (81, .aload_n 0, 1)) DX7_advance_b0 41 rfl
theorem dX7_advance_82 : decode cX7_advance 82 = .ok (.getfield 136, 3) := of_row (r := (82, .getfield 136, 3)) DX7_advance_b0 42 rfl
theorem dX7_advance_85 : decode cX7_advance 85 = .ok (.baload, 1) := of_row (r := (85, .baload, 1)) DX7_advance_b0 43 rfl
theorem dX7_advance_86 : decode cX7_advance 86 = .ok (.istore_n 1, 1) := of_row (r := (86, .istore_n 1, 1)) DX7_advance_b0 44 rfl
theorem dX7_advance_87 : decode cX7_advance 87 = .ok (.iload_n 1, 1) := of_row (r := (87, .iload_n 1, 1)) DX7_advance_b0 45 rfl
theorem dX7_advance_88 : decode cX7_advance 88 = .ok (.invokestatic 145, 3) := of_row (r := (88, .invokestatic 145, 3)) DX7_advance_b0 46 rfl
theorem dX7_advance_91 : decode cX7_advance 91 = .ok (.ifCond .eq 92, 3) := of_row (r := (91, .ifCond .eq 92, 3)) DX7_advance_b0 47 rfl
theorem dX7_advance_94 : decode cX7_advance 94 = .ok (.lconst 0, 1) := of_row (r := (94, .lconst 0, 1)) DX7_advance_b0 48 rfl
theorem dX7_advance_95 : decode cX7_advance 95 = .ok (.lstore_n 2, 1) := of_row (r := (95, .lstore_n 2, 1)) DX7_advance_b0 49 rfl
theorem dX7_advance_96 : decode cX7_advance 96 = .ok (.iconst 0, 1) := of_row (r := (96, .iconst 0, 1)) DX7_advance_b0 50 rfl
theorem dX7_advance_97 : decode cX7_advance 97 = .ok (.istore 4, 2) := of_row (r := (97, .istore 4, 2)) DX7_advance_b0 51 rfl
theorem dX7_advance_99 : decode cX7_advance 99 = .ok (.aload_n 0, 1) := of_row (r := (99, .aload_n 0, 1)) DX7_advance_b0 52 rfl
theorem dX7_advance_100 : decode cX7_advance 100 = .ok (.getfield 136, 3) := of_row (r := (100, .getfield 136, 3)) DX7_advance_b0 53 rfl
theorem dX7_advance_103 : decode cX7_advance 103 = .ok (.aload_n 0, 1) := of_row (r := (103, .aload_n 0, 1)) DX7_advance_b0 54 rfl
theorem dX7_advance_104 : decode cX7_advance 104 = .ok (.getfield 125, 3) := of_row (r := (104, .getfield 125, 3)) DX7_advance_b0 55 rfl
theorem dX7_advance_107 : decode cX7_advance 107 = .ok (.if_icmp .ge 55, 3) := of_row (r := (107, .if_icmp .ge 55, 3)) DX7_advance_b0 56 rfl
theorem dX7_advance_110 : decode cX7_advance 110 = .ok (.aload_n 0, 1) := of_row (r := (110, .aload_n 0, 1)) DX7_advance_b0 57 rfl
theorem dX7_advance_111 : decode cX7_advance 111 = .ok (.getfield 7, 3) := of_row (r := (111, .getfield 7, 3)) DX7_advance_b0 58 rfl
theorem dX7_advance_114 : decode cX7_advance 114 = .ok (.aload_n 0, 1) := of_row (r := (114, .aload_n 0, 1)) DX7_advance_b0 59 rfl
set_option maxRecDepth 20000 in
theorem DX7_advance_b1 : ([(115, .getfield 136, 3), (118, .baload, 1), (119, .invokestatic 145, 3), (122, .ifCond .eq 40, 3), (125, .lload_n 2, 1), (126, .ldc2_w 149, 3), (129, .lmul, 1), (130, .aload_n 0, 1), (131, .getfield 7, 3), (134, .aload_n 0, 1), (135, .getfield 136, 3), (138, .baload, 1), (139, .i2l, 1), (140, .ladd, 1), (141, .ldc2_w 151, 3), (144, .lsub, 1), (145, .lstore_n 2, 1), (146, .aload_n 0, 1), (147, .dup, 1), (148, .getfield 136, 3), (151, .iconst 1, 1), (152, .iadd, 1), (153, .putfield 136, 3), (156, .iinc 4 1, 3), (159, .goto (-60), 3), (162, .aload_n 0, 1), (163, .iload 4, 2), (165, .bipush 7, 2), (167, .if_icmp .le 8, 3), (170, .bipush 51, 2), (172, .goto 7, 3), (175, .lload_n 2, 1), (176, .invokestatic 153, 3), (179, .putfield 142, 3), (182, .return_, 1), (183, .iload_n 1, 1), (184, .invokestatic 157, 3), (187, .ifCond .eq 109, 3), (190, .aload_n 0, 1), (191, .iconst 0, 1), (192, .putfield 160, 3), (195, .aload_n 0, 1), (196, .iconst 0, 1), (197, .putfield 163, 3), (200, .aload_n 0, 1), (201, .getfield 136, 3), (204, .aload_n 0, 1), (205, .getfield 125, 3), (208, .if_icmp .ge 81, 3), (211, .aload_n 0, 1), (212, .getfield 7, 3), (215, .aload_n 0, 1), (216, .getfield 136, 3), (219, .baload, 1), (220, .invokestatic 157, 3), (223, .ifCond .eq 66, 3), (226, .aload_n 0, 1), (227, .aload_n 0, 1), (228, .getfield 163, 3), (231, .bipush 6, 2)] : List (Nat × Instr × Nat)).all (fun r => decide (decode cX7_advance r.1 = .ok r.2)) = true := by decide +kernel
theorem dX7_advance_115 : decode cX7_advance 115 = .ok (.getfield 136, 3) := of_row (r := (115, .getfield 136, 3)) DX7_advance_b1 0 rfl
theorem dX7_advance_118 : decode cX7_advance 118 = .ok (.baload, 1) := of_row (r := (118, .baload, 1)) DX7_advance_b1 1 rfl
theorem dX7_advance_119 : decode cX7_advance 119 = .ok (.invokestatic 145, 3) := of_row (r := (119, .invokestatic 145, 3)) DX7_advance_b1 2 rfl
theorem dX7_advance_122 : decode cX7_advance 122 = .ok (.ifCond .eq 40, 3) := of_row (r := (122, .ifCond .eq 40, 3)) DX7_advance_b1 3 rfl
theorem dX7_advance_125 : decode cX7_advance 125 = .ok (.lload_n 2, 1) := of_row (r := (125, .lload_n 2, 1)) DX7_advance_b1 4 rfl
theorem dX7_advance_126 : decode cX7_advance 126 = .ok (.ldc2_w 149, 3) := of_row (r := (126, .ldc2_w 149, 3)) DX7_advance_b1 5 rfl
theorem dX7_advance_129 : decode cX7_advance 129 = .ok (.lmul, 1) := of_row (r := (129, .lmul, 1)) DX7_advance_b1 6 rfl
theorem dX7_advance_130 : decode cX7_advance 130 = .ok (.aload_n 0, 1) := of_row (r := (130, .aload_n 0, 1)) DX7_advance_b1 7 rfl
theorem dX7_advance_131 : decode cX7_advance 131 = .ok (.getfield 7, 3) := of_row (r := (131, .getfield 7, 3)) DX7_advance_b1 8 rfl
theorem dX7_advance_134 : decode cX7_advance 134 = .ok (.aload_n 0, 1) := of_row (r := (134, .aload_n 0, 1)) DX7_advance_b1 9 rfl
theorem dX7_advance_135 : decode cX7_advance 135 = .ok (.getfield 136, 3) := of_row (r := (135, .getfield 136, 3)) DX7_advance_b1 10 rfl
theorem dX7_advance_138 : decode cX7_advance 138 = .ok (.baload, 1) := of_row (r := (138, .baload, 1)) DX7_advance_b1 11 rfl
theorem dX7_advance_139 : decode cX7_advance 139 = .ok (.i2l, 1) := of_row (r := (139, .i2l, 1)) DX7_advance_b1 12 rfl
theorem dX7_advance_140 : decode cX7_advance 140 = .ok (.ladd, 1) := of_row (r := (140, .ladd, 1)) DX7_advance_b1 13 rfl
theorem dX7_advance_141 : decode cX7_advance 141 = .ok (.ldc2_w 151, 3) := of_row (r := (141, .ldc2_w 151, 3)) DX7_advance_b1 14 rfl
theorem dX7_advance_144 : decode cX7_advance 144 = .ok (.lsub, 1) := of_row (r := (144, .lsub, 1)) DX7_advance_b1 15 rfl
theorem dX7_advance_145 : decode cX7_advance 145 = .ok (.lstore_n 2, 1) := of_row (r := (145, .lstore_n 2, 1)) DX7_advance_b1 16 rfl
theorem dX7_advance_146 : decode cX7_advance 146 = .ok (.aload_n 0, 1) := of_row (r := (146, .aload_n 0, 1)) DX7_advance_b1 17 rfl
theorem dX7_advance_147 : decode cX7_advance 147 = .ok (.dup, 1) := of_row (r := (147, .dup, 1)) DX7_advance_b1 18 rfl
theorem dX7_advance_148 : decode cX7_advance 148 = .ok (.getfield 136, 3) := of_row (r := (148, .getfield 136, 3)) DX7_advance_b1 19 rfl
theorem dX7_advance_151 : decode cX7_advance 151 = .ok (.iconst 1, 1) := of_row (r := (151, .iconst 1, 1)) DX7_advance_b1 20 rfl
theorem dX7_advance_152 : decode cX7_advance 152 = .ok (.iadd, 1) := of_row (r := (152, .iadd, 1)) DX7_advance_b1 21 rfl
theorem dX7_advance_153 : decode cX7_advance 153 = .ok (.putfield 136, 3) := of_row (r := (153, .putfield 136, 3)) DX7_advance_b1 22 rfl
theorem dX7_advance_156 : decode cX7_advance 156 = .ok (.iinc 4 1, 3) := of_row (r := (156, .iinc 4 1, 3)) DX7_advance_b1 23 rfl
theorem dX7_advance_159 : decode cX7_advance 159 = .ok (.goto (-60), 3) := of_row (r := (159, .goto (-60), 3)) DX7_advance_b1 24 rfl
theorem dX7_advance_162 : decode cX7_advance 162 = .ok (.aload_n 0, 1) := of_row (r := (162, .aload_n 0, 1)) DX7_advance_b1 25 rfl
theorem dX7_advance_163 : decode cX7_advance 163 = .ok (.iload 4, 2) := of_row (r := (163, .iload 4, 2)) DX7_advance_b1 26 rfl
theorem dX7_advance_165 : decode cX7_advance 165 = .ok (.bipush 7, 2) := of_row (r := (165, .bipush 7, 2)) DX7_advance_b1 27 rfl
theorem dX7_advance_167 : decode cX7_advance 167 = .ok (.if_icmp .le 8, 3) := of_row (r := (167, .if_icmp .le 8, 3)) DX7_advance_b1 28 rfl
theorem dX7_advance_170 : decode cX7_advance 170 = .ok (.bipush 51, 2) := of_row (r := (170, .bipush 51, 2)) DX7_advance_b1 29 rfl
theorem dX7_advance_172 : decode cX7_advance 172 = .ok (.goto 7, 3) := of_row (r := (172, .goto 7, 3)) DX7_advance_b1 30 rfl
theorem dX7_advance_175 : decode cX7_advance 175 = .ok (.lload_n 2, 1) := of_row (r := (175, .lload_n 2, 1)) DX7_advance_b1 31 rfl
theorem dX7_advance_176 : decode cX7_advance 176 = .ok (.invokestatic 153, 3) := of_row (r := (176, .invokestatic 153, 3)) DX7_advance_b1 32 rfl
theorem dX7_advance_179 : decode cX7_advance 179 = .ok (.putfield 142, 3) := of_row (r := (179, .putfield 142, 3)) DX7_advance_b1 33 rfl
theorem dX7_advance_182 : decode cX7_advance 182 = .ok (.return_, 1) := of_row (r := (182, .return_, 1)) DX7_advance_b1 34 rfl
theorem dX7_advance_183 : decode cX7_advance 183 = .ok (.iload_n 1, 1) := of_row (r := (183, .iload_n 1, 1)) DX7_advance_b1 35 rfl
theorem dX7_advance_184 : decode cX7_advance 184 = .ok (.invokestatic 157, 3) := of_row (r := (184, .invokestatic 157, 3)) DX7_advance_b1 36 rfl
theorem dX7_advance_187 : decode cX7_advance 187 = .ok (.ifCond .eq 109, 3) := of_row (r := (187, .ifCond .eq 109, 3)) DX7_advance_b1 37 rfl
theorem dX7_advance_190 : decode cX7_advance 190 = .ok (.aload_n 0, 1) := of_row (r := (190, .aload_n 0, 1)) DX7_advance_b1 38 rfl
theorem dX7_advance_191 : decode cX7_advance 191 = .ok (.iconst 0, 1) := of_row (r := (191, .iconst 0, 1)) DX7_advance_b1 39 rfl
theorem dX7_advance_192 : decode cX7_advance 192 = .ok (.putfield 160, 3) := of_row (r := (192, .putfield 160, 3)) DX7_advance_b1 40 rfl
theorem dX7_advance_195 : decode cX7_advance 195 = .ok (.aload_n 0, 1) := of_row (r := (195, .aload_n 0, 1)) DX7_advance_b1 41 rfl
theorem dX7_advance_196 : decode cX7_advance 196 = .ok (.iconst 0, 1) := of_row (r := (196, .iconst 0, 1)) DX7_advance_b1 42 rfl
theorem dX7_advance_197 : decode cX7_advance 197 = .ok (.putfield 163, 3) := of_row (r := (197, .putfield 163, 3)) DX7_advance_b1 43 rfl
theorem dX7_advance_200 : decode cX7_advance 200 = .ok (.aload_n 0, 1) := of_row (r := (200, .aload_n 0, 1)) DX7_advance_b1 44 rfl
theorem dX7_advance_201 : decode cX7_advance 201 = .ok (.getfield 136, 3) := of_row (r := (201, .getfield 136, 3)) DX7_advance_b1 45 rfl
theorem dX7_advance_204 : decode cX7_advance 204 = .ok (.aload_n 0, 1) := of_row (r := (204, .aload_n 0, 1)) DX7_advance_b1 46 rfl
theorem dX7_advance_205 : decode cX7_advance 205 = .ok (.getfield 125, 3) := of_row (r := (205, .getfield 125, 3)) DX7_advance_b1 47 rfl
theorem dX7_advance_208 : decode cX7_advance 208 = .ok (.if_icmp .ge 81, 3) := of_row (r := (208, .if_icmp .ge 81, 3)) DX7_advance_b1 48 rfl
theorem dX7_advance_211 : decode cX7_advance 211 = .ok (.aload_n 0, 1) := of_row (r := (211, .aload_n 0, 1)) DX7_advance_b1 49 rfl
theorem dX7_advance_212 : decode cX7_advance 212 = .ok (.getfield 7, 3) := of_row (r := (212, .getfield 7, 3)) DX7_advance_b1 50 rfl
theorem dX7_advance_215 : decode cX7_advance 215 = .ok (.aload_n 0, 1) := of_row (r := (215, .aload_n 0, 1)) DX7_advance_b1 51 rfl
theorem dX7_advance_216 : decode cX7_advance 216 = .ok (.getfield 136, 3) := of_row (r := (216, .getfield 136, 3)) DX7_advance_b1 52 rfl
theorem dX7_advance_219 : decode cX7_advance 219 = .ok (.baload, 1) := of_row (r := (219, .baload, 1)) DX7_advance_b1 53 rfl
theorem dX7_advance_220 : decode cX7_advance 220 = .ok (.invokestatic 157, 3) := of_row (r := (220, .invokestatic 157, 3)) DX7_advance_b1 54 rfl
theorem dX7_advance_223 : decode cX7_advance 223 = .ok (.ifCond .eq 66, 3) := of_row (r := (223, .ifCond .eq 66, 3)) DX7_advance_b1 55 rfl
theorem dX7_advance_226 : decode cX7_advance 226 = .ok (.aload_n 0, 1) := of_row (r := (226, .aload_n 0, 1)) DX7_advance_b1 56 rfl
theorem dX7_advance_227 : decode cX7_advance 227 = .ok (.aload_n 0, 1) := of_row (r := (227, .aload_n 0, 1)) DX7_advance_b1 57 rfl
theorem dX7_advance_228 : decode cX7_advance 228 = .ok (.getfield 163, 3) := of_row (r := (228, .getfield 163, 3)) DX7_advance_b1 58 rfl
theorem dX7_advance_231 : decode cX7_advance 231 = .ok (.bipush 6, 2) := of_row (r := (231, .bipush 6, 2)) DX7_advance_b1 59 rfl
set_option maxRecDepth 20000 in
theorem DX7_advance_b2 : ([(233, .if_icmp .ge 26, 3), (236, .bipush 10, 2), (238, .aload_n 0, 1), (239, .getfield 160, 3), (242, .imul, 1), (243, .aload_n 0, 1), (244, .getfield 7, 3), (247, .aload_n 0, 1), (248, .getfield 136, 3), (251, .baload, 1), (252, .iadd, 1), (253, .bipush 48, 2), (255, .isub, 1), (256, .goto 7, 3), (259, .aload_n 0, 1), (260, .getfield 160, 3), (263, .putfield 160, 3), (266, .aload_n 0, 1), (267, .dup, 1), (268, .getfield 163, 3), (271, .iconst 1, 1), (272, .iadd, 1), (273, .putfield 163, 3), (276, .aload_n 0, 1), (277, .dup, 1), (278, .getfield 136, 3), (281, .iconst 1, 1), (282, .iadd, 1), (283, .putfield 136, 3), (286, .goto (-86), 3), (289, .aload_n 0, 1), (290, .bipush 50, 2), (292, .putfield 142, 3), (295, .return_, 1), (296, .aload_n 0, 1), (297, .dup, 1), (298, .getfield 136, 3), (301, .iconst 1, 1), (302, .iadd, 1), (303, .putfield 136, 3), (306, .aload_n 0, 1), (307, .iload_n 1, 1), (308, .bipush 59, 2), (310, .if_icmp .eq 51, 3), (313, .iload_n 1, 1), (314, .bipush 40, 2), (316, .if_icmp .eq 45, 3), (319, .iload_n 1, 1), (320, .bipush 41, 2), (322, .if_icmp .eq 39, 3), (325, .iload_n 1, 1), (326, .bipush 60, 2), (328, .if_icmp .eq 33, 3), (331, .iload_n 1, 1), (332, .bipush 61, 2), (334, .if_icmp .eq 27, 3), (337, .iload_n 1, 1), (338, .bipush 62, 2), (340, .if_icmp .eq 21, 3), (343, .iload_n 1, 1)] : List (Nat × Instr × Nat)).all (fun r => decide (decode cX7_advance r.1 = .ok r.2)) = true := by decide +kernel
theorem dX7_advance_233 : decode cX7_advance 233 = .ok (.if_icmp .ge 26, 3) := of_row (r := (233, .if_icmp .ge 26, 3)) DX7_advance_b2 0 rfl
theorem dX7_advance_236 : decode cX7_advance 236 = .ok (.bipush 10, 2) := of_row (r := (236, .bipush 10, 2)) DX7_advance_b2 1 rfl
theorem dX7_advance_238 : decode cX7_advance 238 = .ok (.aload_n 0, 1) := of_row (r := (238, .aload_n 0, 1)) DX7_advance_b2 2 rfl
theorem dX7_advance_239 : decode cX7_advance 239 = .ok (.getfield 160, 3) := of_row (r := (239, .getfield 160, 3)) DX7_advance_b2 3 rfl
theorem dX7_advance_242 : decode cX7_advance 242 = .ok (.imul, 1) := of_row (r := (242, .imul, 1)) DX7_advance_b2 4 rfl
theorem dX7_advance_243 : decode cX7_advance 243 = .ok (.aload_n 0, 1) := of_row (r := (243, .aload_n 0, 1)) DX7_advance_b2 5 rfl
theorem dX7_advance_244 : decode cX7_advance 244 = .ok (.getfield 7, 3) := of_row (r := (244, .getfield 7, 3)) DX7_advance_b2 6 rfl
theorem dX7_advance_247 : decode cX7_advance 247 = .ok (.aload_n 0, 1) := of_row (r := (247, .aload_n 0, 1)) DX7_advance_b2 7 rfl
theorem dX7_advance_248 : decode cX7_advance 248 = .ok (.getfield 136, 3) := of_row (r := (248, .getfield 136, 3)) DX7_advance_b2 8 rfl
theorem dX7_advance_251 : decode cX7_advance 251 = .ok (.baload, 1) := of_row (r := (251, .baload, 1)) DX7_advance_b2 9 rfl
theorem dX7_advance_252 : decode cX7_advance 252 = .ok (.iadd, 1) := of_row (r := (252, .iadd, 1)) DX7_advance_b2 10 rfl
theorem dX7_advance_253 : decode cX7_advance 253 = .ok (.bipush 48, 2) := of_row (r := (253, .bipush 48, 2)) DX7_advance_b2 11 rfl
theorem dX7_advance_255 : decode cX7_advance 255 = .ok (.isub, 1) := of_row (r := (255, .isub, 1)) DX7_advance_b2 12 rfl
theorem dX7_advance_256 : decode cX7_advance 256 = .ok (.goto 7, 3) := of_row (r := (256, .goto 7, 3)) DX7_advance_b2 13 rfl
theorem dX7_advance_259 : decode cX7_advance 259 = .ok (.aload_n 0, 1) := of_row (r := (259, .aload_n 0, 1)) DX7_advance_b2 14 rfl
theorem dX7_advance_260 : decode cX7_advance 260 = .ok (.getfield 160, 3) := of_row (r := (260, .getfield 160, 3)) DX7_advance_b2 15 rfl
theorem dX7_advance_263 : decode cX7_advance 263 = .ok (.putfield 160, 3) := of_row (r := (263, .putfield 160, 3)) DX7_advance_b2 16 rfl
theorem dX7_advance_266 : decode cX7_advance 266 = .ok (.aload_n 0, 1) := of_row (r := (266, .aload_n 0, 1)) DX7_advance_b2 17 rfl
theorem dX7_advance_267 : decode cX7_advance 267 = .ok (.dup, 1) := of_row (r := (267, .dup, 1)) DX7_advance_b2 18 rfl
theorem dX7_advance_268 : decode cX7_advance 268 = .ok (.getfield 163, 3) := of_row (r := (268, .getfield 163, 3)) DX7_advance_b2 19 rfl
theorem dX7_advance_271 : decode cX7_advance 271 = .ok (.iconst 1, 1) := of_row (r := (271, .iconst 1, 1)) DX7_advance_b2 20 rfl
theorem dX7_advance_272 : decode cX7_advance 272 = .ok (.iadd, 1) := of_row (r := (272, .iadd, 1)) DX7_advance_b2 21 rfl
theorem dX7_advance_273 : decode cX7_advance 273 = .ok (.putfield 163, 3) := of_row (r := (273, .putfield 163, 3)) DX7_advance_b2 22 rfl
theorem dX7_advance_276 : decode cX7_advance 276 = .ok (.aload_n 0, 1) := of_row (r := (276, .aload_n 0, 1)) DX7_advance_b2 23 rfl
theorem dX7_advance_277 : decode cX7_advance 277 = .ok (.dup, 1) := of_row (r := (277, .dup, 1)) DX7_advance_b2 24 rfl
theorem dX7_advance_278 : decode cX7_advance 278 = .ok (.getfield 136, 3) := of_row (r := (278, .getfield 136, 3)) DX7_advance_b2 25 rfl
theorem dX7_advance_281 : decode cX7_advance 281 = .ok (.iconst 1, 1) := of_row (r := (281, .iconst 1, 1)) DX7_advance_b2 26 rfl
theorem dX7_advance_282 : decode cX7_advance 282 = .ok (.iadd, 1) := of_row (r := (282, .iadd, 1)) DX7_advance_b2 27 rfl
theorem dX7_advance_283 : decode cX7_advance 283 = .ok (.putfield 136, 3) := of_row (r := (283, .putfield 136, 3)) DX7_advance_b2 28 rfl
theorem dX7_advance_286 : decode cX7_advance 286 = .ok (.goto (-86), 3) := of_row (r := (286, .goto (-86), 3)) DX7_advance_b2 29 rfl
theorem dX7_advance_289 : decode cX7_advance 289 = .ok (.aload_n 0, 1) := of_row (r := (289, .aload_n 0, 1)) DX7_advance_b2 30 rfl
theorem dX7_advance_290 : decode cX7_advance 290 = .ok (.bipush 50, 2) := of_row (r := (290, .bipush 50, 2)) DX7_advance_b2 31 rfl
theorem dX7_advance_292 : decode cX7_advance 292 = .ok (.putfield 142, 3) := of_row (r := (292, .putfield 142, 3)) DX7_advance_b2 32 rfl
theorem dX7_advance_295 : decode cX7_advance 295 = .ok (.return_, 1) := of_row (r := (295, .return_, 1)) DX7_advance_b2 33 rfl
theorem dX7_advance_296 : decode cX7_advance 296 = .ok (.aload_n 0, 1) := of_row (r := (296, .aload_n 0, 1)) DX7_advance_b2 34 rfl
theorem dX7_advance_297 : decode cX7_advance 297 = .ok (.dup, 1) := of_row (r := (297, .dup, 1)) DX7_advance_b2 35 rfl
theorem dX7_advance_298 : decode cX7_advance 298 = .ok (.getfield 136, 3) := of_row (r := (298, .getfield 136, 3)) DX7_advance_b2 36 rfl
theorem dX7_advance_301 : decode cX7_advance 301 = .ok (.iconst 1, 1) := of_row (r := (301, .iconst 1, 1)) DX7_advance_b2 37 rfl
theorem dX7_advance_302 : decode cX7_advance 302 = .ok (.iadd, 1) := of_row (r := (302, .iadd, 1)) DX7_advance_b2 38 rfl
theorem dX7_advance_303 : decode cX7_advance 303 = .ok (.putfield 136, 3) := of_row (r := (303, .putfield 136, 3)) DX7_advance_b2 39 rfl
theorem dX7_advance_306 : decode cX7_advance 306 = .ok (.aload_n 0, 1) := of_row (r := (306, .aload_n 0, 1)) DX7_advance_b2 40 rfl
theorem dX7_advance_307 : decode cX7_advance 307 = .ok (.iload_n 1, 1) := of_row (r := (307, .iload_n 1, 1)) DX7_advance_b2 41 rfl
theorem dX7_advance_308 : decode cX7_advance 308 = .ok (.bipush 59, 2) := of_row (r := (308, .bipush 59, 2)) DX7_advance_b2 42 rfl
theorem dX7_advance_310 : decode cX7_advance 310 = .ok (.if_icmp .eq 51, 3) := of_row (r := (310, .if_icmp .eq 51, 3)) DX7_advance_b2 43 rfl
theorem dX7_advance_313 : decode cX7_advance 313 = .ok (.iload_n 1, 1) := of_row (r := (313, .iload_n 1, 1)) DX7_advance_b2 44 rfl
theorem dX7_advance_314 : decode cX7_advance 314 = .ok (.bipush 40, 2) := of_row (r := (314, .bipush 40, 2)) DX7_advance_b2 45 rfl
theorem dX7_advance_316 : decode cX7_advance 316 = .ok (.if_icmp .eq 45, 3) := of_row (r := (316, .if_icmp .eq 45, 3)) DX7_advance_b2 46 rfl
theorem dX7_advance_319 : decode cX7_advance 319 = .ok (.iload_n 1, 1) := of_row (r := (319, .iload_n 1, 1)) DX7_advance_b2 47 rfl
theorem dX7_advance_320 : decode cX7_advance 320 = .ok (.bipush 41, 2) := of_row (r := (320, .bipush 41, 2)) DX7_advance_b2 48 rfl
theorem dX7_advance_322 : decode cX7_advance 322 = .ok (.if_icmp .eq 39, 3) := of_row (r := (322, .if_icmp .eq 39, 3)) DX7_advance_b2 49 rfl
theorem dX7_advance_325 : decode cX7_advance 325 = .ok (.iload_n 1, 1) := of_row (r := (325, .iload_n 1, 1)) DX7_advance_b2 50 rfl
theorem dX7_advance_326 : decode cX7_advance 326 = .ok (.bipush 60, 2) := of_row (r := (326, .bipush 60, 2)) DX7_advance_b2 51 rfl
theorem dX7_advance_328 : decode cX7_advance 328 = .ok (.if_icmp .eq 33, 3) := of_row (r := (328, .if_icmp .eq 33, 3)) DX7_advance_b2 52 rfl
theorem dX7_advance_331 : decode cX7_advance 331 = .ok (.iload_n 1, 1) := of_row (r := (331, .iload_n 1, 1)) DX7_advance_b2 53 rfl
theorem dX7_advance_332 : decode cX7_advance 332 = .ok (.bipush 61, 2) := of_row (r := (332, .bipush 61, 2)) DX7_advance_b2 54 rfl
theorem dX7_advance_334 : decode cX7_advance 334 = .ok (.if_icmp .eq 27, 3) := of_row (r := (334, .if_icmp .eq 27, 3)) DX7_advance_b2 55 rfl
theorem dX7_advance_337 : decode cX7_advance 337 = .ok (.iload_n 1, 1) := of_row (r := (337, .iload_n 1, 1)) DX7_advance_b2 56 rfl
theorem dX7_advance_338 : decode cX7_advance 338 = .ok (.bipush 62, 2) := of_row (r := (338, .bipush 62, 2)) DX7_advance_b2 57 rfl
theorem dX7_advance_340 : decode cX7_advance 340 = .ok (.if_icmp .eq 21, 3) := of_row (r := (340, .if_icmp .eq 21, 3)) DX7_advance_b2 58 rfl
theorem dX7_advance_343 : decode cX7_advance 343 = .ok (.iload_n 1, 1) := of_row (r := (343, .iload_n 1, 1)) DX7_advance_b2 59 rfl
set_option maxRecDepth 20000 in
theorem DX7_advance_b3 : ([(344, .bipush 43, 2), (346, .if_icmp .eq 15, 3), (349, .iload_n 1, 1), (350, .bipush 45, 2), (352, .if_icmp .eq 9, 3), (355, .iload_n 1, 1), (356, .bipush 42, 2), (358, .if_icmp .ne 7, 3), (361, .iload_n 1, 1), (362, .goto 5, 3), (365, .bipush 51, 2), (367, .putfield 142, 3), (370, .return_, 1)] : List (Nat × Instr × Nat)).all (fun r => decide (decode cX7_advance r.1 = .ok r.2)) = true := by decide +kernel
theorem dX7_advance_344 : decode cX7_advance 344 = .ok (.bipush 43, 2) := of_row (r := (344, .bipush 43, 2)) DX7_advance_b3 0 rfl
theorem dX7_advance_346 : decode cX7_advance 346 = .ok (.if_icmp .eq 15, 3) := of_row (r := (346, .if_icmp .eq 15, 3)) DX7_advance_b3 1 rfl
theorem dX7_advance_349 : decode cX7_advance 349 = .ok (.iload_n 1, 1) := of_row (r := (349, .iload_n 1, 1)) DX7_advance_b3 2 rfl
theorem dX7_advance_350 : decode cX7_advance 350 = .ok (.bipush 45, 2) := of_row (r := (350, .bipush 45, 2)) DX7_advance_b3 3 rfl
theorem dX7_advance_352 : decode cX7_advance 352 = .ok (.if_icmp .eq 9, 3) := of_row (r := (352, .if_icmp .eq 9, 3)) DX7_advance_b3 4 rfl
theorem dX7_advance_355 : decode cX7_advance 355 = .ok (.iload_n 1, 1) := of_row (r := (355, .iload_n 1, 1)) DX7_advance_b3 5 rfl
theorem dX7_advance_356 : decode cX7_advance 356 = .ok (.bipush 42, 2) := of_row (r := (356, .bipush 42, 2)) DX7_advance_b3 6 rfl
theorem dX7_advance_358 : decode cX7_advance 358 = .ok (.if_icmp .ne 7, 3) := of_row (r := (358, .if_icmp .ne 7, 3)) DX7_advance_b3 7 rfl
theorem dX7_advance_361 : decode cX7_advance 361 = .ok (.iload_n 1, 1) := of_row (r := (361, .iload_n 1, 1)) DX7_advance_b3 8 rfl
theorem dX7_advance_362 : decode cX7_advance 362 = .ok (.goto 5, 3) := of_row (r := (362, .goto 5, 3)) DX7_advance_b3 9 rfl
theorem dX7_advance_365 : decode cX7_advance 365 = .ok (.bipush 51, 2) := of_row (r := (365, .bipush 51, 2)) DX7_advance_b3 10 rfl
theorem dX7_advance_367 : decode cX7_advance 367 = .ok (.putfield 142, 3) := of_row (r := (367, .putfield 142, 3)) DX7_advance_b3 11 rfl
theorem dX7_advance_370 : decode cX7_advance 370 = .ok (.return_, 1) := of_row (r := (370, .return_, 1)) DX7_advance_b3 12 rfl
set_option maxRecDepth 20000 in
theorem DX7_wordOf_b0 : ([(0, .lload_n 0, 1), (1, .ldc2_w 166, 3), (4, .lcmp, 1), (5, .ifCond .ne 6, 3), (8, .bipush 100, 2), (10, .ireturn, 1), (11, .lload_n 0, 1), (12, .ldc2_w 168, 3), (15, .lcmp, 1), (16, .ifCond .ne 6, 3), (19, .bipush 101, 2), (21, .ireturn, 1), (22, .lload_n 0, 1), (23, .ldc2_w 170, 3), (26, .lcmp, 1), (27, .ifCond .ne 6, 3), (30, .bipush 102, 2), (32, .ireturn, 1), (33, .lload_n 0, 1), (34, .ldc2_w 172, 3), (37, .lcmp, 1), (38, .ifCond .ne 6, 3), (41, .bipush 103, 2), (43, .ireturn, 1), (44, .lload_n 0, 1), (45, .ldc2_w 174, 3), (48, .lcmp, 1), (49, .ifCond .ne 6, 3), (52, .bipush 104, 2), (54, .ireturn, 1), (55, .lload_n 0, 1), (56, .ldc2_w 176, 3), (59, .lcmp, 1), (60, .ifCond .ne 6, 3), (63, .bipush 105, 2), (65, .ireturn, 1), (66, .lload_n 0, 1), (67, .ldc2_w 178, 3), (70, .lcmp, 1), (71, .ifCond .ne 6, 3), (74, .bipush 106, 2), (76, .ireturn, 1), (77, .lload_n 0, 1), (78, .ldc2_w 180, 3), (81, .lcmp, 1), (82, .ifCond .ne 6, 3), (85, .bipush 107, 2), (87, .ireturn, 1), (88, .lload_n 0, 1), (89, .ldc2_w 182, 3), (92, .lcmp, 1), (93, .ifCond .ne 6, 3), (96, .bipush 108, 2), (98, .ireturn, 1), (99, .lload_n 0, 1), (100, .ldc2_w 184, 3), (103, .lcmp, 1), (104, .ifCond .ne 6, 3), (107, .bipush 109, 2), (109, .ireturn, 1)] : List (Nat × Instr × Nat)).all (fun r => decide (decode cX7_wordOf r.1 = .ok r.2)) = true := by decide +kernel
theorem dX7_wordOf_0 : decode cX7_wordOf 0 = .ok (.lload_n 0, 1) := of_row (r := (0, .lload_n 0, 1)) DX7_wordOf_b0 0 rfl
theorem dX7_wordOf_1 : decode cX7_wordOf 1 = .ok (.ldc2_w 166, 3) := of_row (r := (1, .ldc2_w 166, 3)) DX7_wordOf_b0 1 rfl
theorem dX7_wordOf_4 : decode cX7_wordOf 4 = .ok (.lcmp, 1) := of_row (r := (4, .lcmp, 1)) DX7_wordOf_b0 2 rfl
theorem dX7_wordOf_5 : decode cX7_wordOf 5 = .ok (.ifCond .ne 6, 3) := of_row (r := (5, .ifCond .ne 6, 3)) DX7_wordOf_b0 3 rfl
theorem dX7_wordOf_8 : decode cX7_wordOf 8 = .ok (.bipush 100, 2) := of_row (r := (8, .bipush 100, 2)) DX7_wordOf_b0 4 rfl
theorem dX7_wordOf_10 : decode cX7_wordOf 10 = .ok (.ireturn, 1) := of_row (r := (10, .ireturn, 1)) DX7_wordOf_b0 5 rfl
theorem dX7_wordOf_11 : decode cX7_wordOf 11 = .ok (.lload_n 0, 1) := of_row (r := (11, .lload_n 0, 1)) DX7_wordOf_b0 6 rfl
theorem dX7_wordOf_12 : decode cX7_wordOf 12 = .ok (.ldc2_w 168, 3) := of_row (r := (12, .ldc2_w 168, 3)) DX7_wordOf_b0 7 rfl
theorem dX7_wordOf_15 : decode cX7_wordOf 15 = .ok (.lcmp, 1) := of_row (r := (15, .lcmp, 1)) DX7_wordOf_b0 8 rfl
theorem dX7_wordOf_16 : decode cX7_wordOf 16 = .ok (.ifCond .ne 6, 3) := of_row (r := (16, .ifCond .ne 6, 3)) DX7_wordOf_b0 9 rfl
theorem dX7_wordOf_19 : decode cX7_wordOf 19 = .ok (.bipush 101, 2) := of_row (r := (19, .bipush 101, 2)) DX7_wordOf_b0 10 rfl
theorem dX7_wordOf_21 : decode cX7_wordOf 21 = .ok (.ireturn, 1) := of_row (r := (21, .ireturn, 1)) DX7_wordOf_b0 11 rfl
theorem dX7_wordOf_22 : decode cX7_wordOf 22 = .ok (.lload_n 0, 1) := of_row (r := (22, .lload_n 0, 1)) DX7_wordOf_b0 12 rfl
theorem dX7_wordOf_23 : decode cX7_wordOf 23 = .ok (.ldc2_w 170, 3) := of_row (r := (23, .ldc2_w 170, 3)) DX7_wordOf_b0 13 rfl
theorem dX7_wordOf_26 : decode cX7_wordOf 26 = .ok (.lcmp, 1) := of_row (r := (26, .lcmp, 1)) DX7_wordOf_b0 14 rfl
theorem dX7_wordOf_27 : decode cX7_wordOf 27 = .ok (.ifCond .ne 6, 3) := of_row (r := (27, .ifCond .ne 6, 3)) DX7_wordOf_b0 15 rfl
theorem dX7_wordOf_30 : decode cX7_wordOf 30 = .ok (.bipush 102, 2) := of_row (r := (30, .bipush 102, 2)) DX7_wordOf_b0 16 rfl
theorem dX7_wordOf_32 : decode cX7_wordOf 32 = .ok (.ireturn, 1) := of_row (r := (32, .ireturn, 1)) DX7_wordOf_b0 17 rfl
theorem dX7_wordOf_33 : decode cX7_wordOf 33 = .ok (.lload_n 0, 1) := of_row (r := (33, .lload_n 0, 1)) DX7_wordOf_b0 18 rfl
theorem dX7_wordOf_34 : decode cX7_wordOf 34 = .ok (.ldc2_w 172, 3) := of_row (r := (34, .ldc2_w 172, 3)) DX7_wordOf_b0 19 rfl
theorem dX7_wordOf_37 : decode cX7_wordOf 37 = .ok (.lcmp, 1) := of_row (r := (37, .lcmp, 1)) DX7_wordOf_b0 20 rfl
theorem dX7_wordOf_38 : decode cX7_wordOf 38 = .ok (.ifCond .ne 6, 3) := of_row (r := (38, .ifCond .ne 6, 3)) DX7_wordOf_b0 21 rfl
theorem dX7_wordOf_41 : decode cX7_wordOf 41 = .ok (.bipush 103, 2) := of_row (r := (41, .bipush 103, 2)) DX7_wordOf_b0 22 rfl
theorem dX7_wordOf_43 : decode cX7_wordOf 43 = .ok (.ireturn, 1) := of_row (r := (43, .ireturn, 1)) DX7_wordOf_b0 23 rfl
theorem dX7_wordOf_44 : decode cX7_wordOf 44 = .ok (.lload_n 0, 1) := of_row (r := (44, .lload_n 0, 1)) DX7_wordOf_b0 24 rfl
theorem dX7_wordOf_45 : decode cX7_wordOf 45 = .ok (.ldc2_w 174, 3) := of_row (r := (45, .ldc2_w 174, 3)) DX7_wordOf_b0 25 rfl
theorem dX7_wordOf_48 : decode cX7_wordOf 48 = .ok (.lcmp, 1) := of_row (r := (48, .lcmp, 1)) DX7_wordOf_b0 26 rfl
theorem dX7_wordOf_49 : decode cX7_wordOf 49 = .ok (.ifCond .ne 6, 3) := of_row (r := (49, .ifCond .ne 6, 3)) DX7_wordOf_b0 27 rfl
theorem dX7_wordOf_52 : decode cX7_wordOf 52 = .ok (.bipush 104, 2) := of_row (r := (52, .bipush 104, 2)) DX7_wordOf_b0 28 rfl
theorem dX7_wordOf_54 : decode cX7_wordOf 54 = .ok (.ireturn, 1) := of_row (r := (54, .ireturn, 1)) DX7_wordOf_b0 29 rfl
theorem dX7_wordOf_55 : decode cX7_wordOf 55 = .ok (.lload_n 0, 1) := of_row (r := (55, .lload_n 0, 1)) DX7_wordOf_b0 30 rfl
theorem dX7_wordOf_56 : decode cX7_wordOf 56 = .ok (.ldc2_w 176, 3) := of_row (r := (56, .ldc2_w 176, 3)) DX7_wordOf_b0 31 rfl
theorem dX7_wordOf_59 : decode cX7_wordOf 59 = .ok (.lcmp, 1) := of_row (r := (59, .lcmp, 1)) DX7_wordOf_b0 32 rfl
theorem dX7_wordOf_60 : decode cX7_wordOf 60 = .ok (.ifCond .ne 6, 3) := of_row (r := (60, .ifCond .ne 6, 3)) DX7_wordOf_b0 33 rfl
theorem dX7_wordOf_63 : decode cX7_wordOf 63 = .ok (.bipush 105, 2) := of_row (r := (63, .bipush 105, 2)) DX7_wordOf_b0 34 rfl
theorem dX7_wordOf_65 : decode cX7_wordOf 65 = .ok (.ireturn, 1) := of_row (r := (65, .ireturn, 1)) DX7_wordOf_b0 35 rfl
theorem dX7_wordOf_66 : decode cX7_wordOf 66 = .ok (.lload_n 0, 1) := of_row (r := (66, .lload_n 0, 1)) DX7_wordOf_b0 36 rfl
theorem dX7_wordOf_67 : decode cX7_wordOf 67 = .ok (.ldc2_w 178, 3) := of_row (r := (67, .ldc2_w 178, 3)) DX7_wordOf_b0 37 rfl
theorem dX7_wordOf_70 : decode cX7_wordOf 70 = .ok (.lcmp, 1) := of_row (r := (70, .lcmp, 1)) DX7_wordOf_b0 38 rfl
theorem dX7_wordOf_71 : decode cX7_wordOf 71 = .ok (.ifCond .ne 6, 3) := of_row (r := (71, .ifCond .ne 6, 3)) DX7_wordOf_b0 39 rfl
theorem dX7_wordOf_74 : decode cX7_wordOf 74 = .ok (.bipush 106, 2) := of_row (r := (74, .bipush 106, 2)) DX7_wordOf_b0 40 rfl
theorem dX7_wordOf_76 : decode cX7_wordOf 76 = .ok (.ireturn, 1) := of_row (r := (76, .ireturn, 1)) DX7_wordOf_b0 41 rfl
theorem dX7_wordOf_77 : decode cX7_wordOf 77 = .ok (.lload_n 0, 1) := of_row (r := (77, .lload_n 0, 1)) DX7_wordOf_b0 42 rfl
theorem dX7_wordOf_78 : decode cX7_wordOf 78 = .ok (.ldc2_w 180, 3) := of_row (r := (78, .ldc2_w 180, 3)) DX7_wordOf_b0 43 rfl
theorem dX7_wordOf_81 : decode cX7_wordOf 81 = .ok (.lcmp, 1) := of_row (r := (81, .lcmp, 1)) DX7_wordOf_b0 44 rfl
theorem dX7_wordOf_82 : decode cX7_wordOf 82 = .ok (.ifCond .ne 6, 3) := of_row (r := (82, .ifCond .ne 6, 3)) DX7_wordOf_b0 45 rfl
theorem dX7_wordOf_85 : decode cX7_wordOf 85 = .ok (.bipush 107, 2) := of_row (r := (85, .bipush 107, 2)) DX7_wordOf_b0 46 rfl
theorem dX7_wordOf_87 : decode cX7_wordOf 87 = .ok (.ireturn, 1) := of_row (r := (87, .ireturn, 1)) DX7_wordOf_b0 47 rfl
theorem dX7_wordOf_88 : decode cX7_wordOf 88 = .ok (.lload_n 0, 1) := of_row (r := (88, .lload_n 0, 1)) DX7_wordOf_b0 48 rfl
theorem dX7_wordOf_89 : decode cX7_wordOf 89 = .ok (.ldc2_w 182, 3) := of_row (r := (89, .ldc2_w 182, 3)) DX7_wordOf_b0 49 rfl
theorem dX7_wordOf_92 : decode cX7_wordOf 92 = .ok (.lcmp, 1) := of_row (r := (92, .lcmp, 1)) DX7_wordOf_b0 50 rfl
theorem dX7_wordOf_93 : decode cX7_wordOf 93 = .ok (.ifCond .ne 6, 3) := of_row (r := (93, .ifCond .ne 6, 3)) DX7_wordOf_b0 51 rfl
theorem dX7_wordOf_96 : decode cX7_wordOf 96 = .ok (.bipush 108, 2) := of_row (r := (96, .bipush 108, 2)) DX7_wordOf_b0 52 rfl
theorem dX7_wordOf_98 : decode cX7_wordOf 98 = .ok (.ireturn, 1) := of_row (r := (98, .ireturn, 1)) DX7_wordOf_b0 53 rfl
theorem dX7_wordOf_99 : decode cX7_wordOf 99 = .ok (.lload_n 0, 1) := of_row (r := (99, .lload_n 0, 1)) DX7_wordOf_b0 54 rfl
theorem dX7_wordOf_100 : decode cX7_wordOf 100 = .ok (.ldc2_w 184, 3) := of_row (r := (100, .ldc2_w 184, 3)) DX7_wordOf_b0 55 rfl
theorem dX7_wordOf_103 : decode cX7_wordOf 103 = .ok (.lcmp, 1) := of_row (r := (103, .lcmp, 1)) DX7_wordOf_b0 56 rfl
theorem dX7_wordOf_104 : decode cX7_wordOf 104 = .ok (.ifCond .ne 6, 3) := of_row (r := (104, .ifCond .ne 6, 3)) DX7_wordOf_b0 57 rfl
theorem dX7_wordOf_107 : decode cX7_wordOf 107 = .ok (.bipush 109, 2) := of_row (r := (107, .bipush 109, 2)) DX7_wordOf_b0 58 rfl
theorem dX7_wordOf_109 : decode cX7_wordOf 109 = .ok (.ireturn, 1) := of_row (r := (109, .ireturn, 1)) DX7_wordOf_b0 59 rfl
set_option maxRecDepth 20000 in
theorem DX7_wordOf_b1 : ([(110, .lload_n 0, 1), (111, .ldc2_w 186, 3), (114, .lcmp, 1), (115, .ifCond .ne 6, 3), (118, .bipush 110, 2), (120, .ireturn, 1), (121, .lload_n 0, 1), (122, .ldc2_w 188, 3), (125, .lcmp, 1), (126, .ifCond .ne 6, 3), (129, .bipush 111, 2), (131, .ireturn, 1), (132, .lload_n 0, 1), (133, .ldc2_w 190, 3), (136, .lcmp, 1), (137, .ifCond .ne 6, 3), (140, .bipush 112, 2), (142, .ireturn, 1), (143, .lload_n 0, 1), (144, .ldc2_w 192, 3), (147, .lcmp, 1), (148, .ifCond .ne 6, 3), (151, .bipush 113, 2), (153, .ireturn, 1), (154, .lload_n 0, 1), (155, .ldc2_w 194, 3), (158, .lcmp, 1), (159, .ifCond .ne 6, 3), (162, .bipush 114, 2), (164, .ireturn, 1), (165, .lload_n 0, 1), (166, .ldc2_w 196, 3), (169, .lcmp, 1), (170, .ifCond .ne 6, 3), (173, .bipush 115, 2), (175, .ireturn, 1), (176, .lload_n 0, 1), (177, .ldc2_w 198, 3), (180, .lcmp, 1), (181, .ifCond .ne 6, 3), (184, .bipush 116, 2), (186, .ireturn, 1), (187, .lload_n 0, 1), (188, .ldc2_w 200, 3), (191, .lcmp, 1), (192, .ifCond .ne 6, 3), (195, .bipush 117, 2), (197, .ireturn, 1), (198, .lload_n 0, 1), (199, .ldc2_w 202, 3), (202, .lcmp, 1), (203, .ifCond .ne 6, 3), (206, .bipush 118, 2), (208, .ireturn, 1), (209, .lload_n 0, 1), (210, .ldc2_w 204, 3), (213, .lcmp, 1), (214, .ifCond .ne 6, 3), (217, .bipush 119, 2), (219, .ireturn, 1)] : List (Nat × Instr × Nat)).all (fun r => decide (decode cX7_wordOf r.1 = .ok r.2)) = true := by decide +kernel
theorem dX7_wordOf_110 : decode cX7_wordOf 110 = .ok (.lload_n 0, 1) := of_row (r := (110, .lload_n 0, 1)) DX7_wordOf_b1 0 rfl
theorem dX7_wordOf_111 : decode cX7_wordOf 111 = .ok (.ldc2_w 186, 3) := of_row (r := (111, .ldc2_w 186, 3)) DX7_wordOf_b1 1 rfl
theorem dX7_wordOf_114 : decode cX7_wordOf 114 = .ok (.lcmp, 1) := of_row (r := (114, .lcmp, 1)) DX7_wordOf_b1 2 rfl
theorem dX7_wordOf_115 : decode cX7_wordOf 115 = .ok (.ifCond .ne 6, 3) := of_row (r := (115, .ifCond .ne 6, 3)) DX7_wordOf_b1 3 rfl
theorem dX7_wordOf_118 : decode cX7_wordOf 118 = .ok (.bipush 110, 2) := of_row (r := (118, .bipush 110, 2)) DX7_wordOf_b1 4 rfl
theorem dX7_wordOf_120 : decode cX7_wordOf 120 = .ok (.ireturn, 1) := of_row (r := (120, .ireturn, 1)) DX7_wordOf_b1 5 rfl
theorem dX7_wordOf_121 : decode cX7_wordOf 121 = .ok (.lload_n 0, 1) := of_row (r := (121, .lload_n 0, 1)) DX7_wordOf_b1 6 rfl
theorem dX7_wordOf_122 : decode cX7_wordOf 122 = .ok (.ldc2_w 188, 3) := of_row (r := (122, .ldc2_w 188, 3)) DX7_wordOf_b1 7 rfl
theorem dX7_wordOf_125 : decode cX7_wordOf 125 = .ok (.lcmp, 1) := of_row (r := (125, .lcmp, 1)) DX7_wordOf_b1 8 rfl
theorem dX7_wordOf_126 : decode cX7_wordOf 126 = .ok (.ifCond .ne 6, 3) := of_row (r := (126, .ifCond .ne 6, 3)) DX7_wordOf_b1 9 rfl
theorem dX7_wordOf_129 : decode cX7_wordOf 129 = .ok (.bipush 111, 2) := of_row (r := (129, .bipush 111, 2)) DX7_wordOf_b1 10 rfl
theorem dX7_wordOf_131 : decode cX7_wordOf 131 = .ok (.ireturn, 1) := of_row (r := (131, .ireturn, 1)) DX7_wordOf_b1 11 rfl
theorem dX7_wordOf_132 : decode cX7_wordOf 132 = .ok (.lload_n 0, 1) := of_row (r := (132, .lload_n 0, 1)) DX7_wordOf_b1 12 rfl
theorem dX7_wordOf_133 : decode cX7_wordOf 133 = .ok (.ldc2_w 190, 3) := of_row (r := (133, .ldc2_w 190, 3)) DX7_wordOf_b1 13 rfl
theorem dX7_wordOf_136 : decode cX7_wordOf 136 = .ok (.lcmp, 1) := of_row (r := (136, .lcmp, 1)) DX7_wordOf_b1 14 rfl
theorem dX7_wordOf_137 : decode cX7_wordOf 137 = .ok (.ifCond .ne 6, 3) := of_row (r := (137, .ifCond .ne 6, 3)) DX7_wordOf_b1 15 rfl
theorem dX7_wordOf_140 : decode cX7_wordOf 140 = .ok (.bipush 112, 2) := of_row (r := (140, .bipush 112, 2)) DX7_wordOf_b1 16 rfl
theorem dX7_wordOf_142 : decode cX7_wordOf 142 = .ok (.ireturn, 1) := of_row (r := (142, .ireturn, 1)) DX7_wordOf_b1 17 rfl
theorem dX7_wordOf_143 : decode cX7_wordOf 143 = .ok (.lload_n 0, 1) := of_row (r := (143, .lload_n 0, 1)) DX7_wordOf_b1 18 rfl
theorem dX7_wordOf_144 : decode cX7_wordOf 144 = .ok (.ldc2_w 192, 3) := of_row (r := (144, .ldc2_w 192, 3)) DX7_wordOf_b1 19 rfl
theorem dX7_wordOf_147 : decode cX7_wordOf 147 = .ok (.lcmp, 1) := of_row (r := (147, .lcmp, 1)) DX7_wordOf_b1 20 rfl
theorem dX7_wordOf_148 : decode cX7_wordOf 148 = .ok (.ifCond .ne 6, 3) := of_row (r := (148, .ifCond .ne 6, 3)) DX7_wordOf_b1 21 rfl
theorem dX7_wordOf_151 : decode cX7_wordOf 151 = .ok (.bipush 113, 2) := of_row (r := (151, .bipush 113, 2)) DX7_wordOf_b1 22 rfl
theorem dX7_wordOf_153 : decode cX7_wordOf 153 = .ok (.ireturn, 1) := of_row (r := (153, .ireturn, 1)) DX7_wordOf_b1 23 rfl
theorem dX7_wordOf_154 : decode cX7_wordOf 154 = .ok (.lload_n 0, 1) := of_row (r := (154, .lload_n 0, 1)) DX7_wordOf_b1 24 rfl
theorem dX7_wordOf_155 : decode cX7_wordOf 155 = .ok (.ldc2_w 194, 3) := of_row (r := (155, .ldc2_w 194, 3)) DX7_wordOf_b1 25 rfl
theorem dX7_wordOf_158 : decode cX7_wordOf 158 = .ok (.lcmp, 1) := of_row (r := (158, .lcmp, 1)) DX7_wordOf_b1 26 rfl
theorem dX7_wordOf_159 : decode cX7_wordOf 159 = .ok (.ifCond .ne 6, 3) := of_row (r := (159, .ifCond .ne 6, 3)) DX7_wordOf_b1 27 rfl
theorem dX7_wordOf_162 : decode cX7_wordOf 162 = .ok (.bipush 114, 2) := of_row (r := (162, .bipush 114, 2)) DX7_wordOf_b1 28 rfl
theorem dX7_wordOf_164 : decode cX7_wordOf 164 = .ok (.ireturn, 1) := of_row (r := (164, .ireturn, 1)) DX7_wordOf_b1 29 rfl
theorem dX7_wordOf_165 : decode cX7_wordOf 165 = .ok (.lload_n 0, 1) := of_row (r := (165, .lload_n 0, 1)) DX7_wordOf_b1 30 rfl
theorem dX7_wordOf_166 : decode cX7_wordOf 166 = .ok (.ldc2_w 196, 3) := of_row (r := (166, .ldc2_w 196, 3)) DX7_wordOf_b1 31 rfl
theorem dX7_wordOf_169 : decode cX7_wordOf 169 = .ok (.lcmp, 1) := of_row (r := (169, .lcmp, 1)) DX7_wordOf_b1 32 rfl
theorem dX7_wordOf_170 : decode cX7_wordOf 170 = .ok (.ifCond .ne 6, 3) := of_row (r := (170, .ifCond .ne 6, 3)) DX7_wordOf_b1 33 rfl
theorem dX7_wordOf_173 : decode cX7_wordOf 173 = .ok (.bipush 115, 2) := of_row (r := (173, .bipush 115, 2)) DX7_wordOf_b1 34 rfl
theorem dX7_wordOf_175 : decode cX7_wordOf 175 = .ok (.ireturn, 1) := of_row (r := (175, .ireturn, 1)) DX7_wordOf_b1 35 rfl
theorem dX7_wordOf_176 : decode cX7_wordOf 176 = .ok (.lload_n 0, 1) := of_row (r := (176, .lload_n 0, 1)) DX7_wordOf_b1 36 rfl
theorem dX7_wordOf_177 : decode cX7_wordOf 177 = .ok (.ldc2_w 198, 3) := of_row (r := (177, .ldc2_w 198, 3)) DX7_wordOf_b1 37 rfl
theorem dX7_wordOf_180 : decode cX7_wordOf 180 = .ok (.lcmp, 1) := of_row (r := (180, .lcmp, 1)) DX7_wordOf_b1 38 rfl
theorem dX7_wordOf_181 : decode cX7_wordOf 181 = .ok (.ifCond .ne 6, 3) := of_row (r := (181, .ifCond .ne 6, 3)) DX7_wordOf_b1 39 rfl
theorem dX7_wordOf_184 : decode cX7_wordOf 184 = .ok (.bipush 116, 2) := of_row (r := (184, .bipush 116, 2)) DX7_wordOf_b1 40 rfl
theorem dX7_wordOf_186 : decode cX7_wordOf 186 = .ok (.ireturn, 1) := of_row (r := (186, .ireturn, 1)) DX7_wordOf_b1 41 rfl
theorem dX7_wordOf_187 : decode cX7_wordOf 187 = .ok (.lload_n 0, 1) := of_row (r := (187, .lload_n 0, 1)) DX7_wordOf_b1 42 rfl
theorem dX7_wordOf_188 : decode cX7_wordOf 188 = .ok (.ldc2_w 200, 3) := of_row (r := (188, .ldc2_w 200, 3)) DX7_wordOf_b1 43 rfl
theorem dX7_wordOf_191 : decode cX7_wordOf 191 = .ok (.lcmp, 1) := of_row (r := (191, .lcmp, 1)) DX7_wordOf_b1 44 rfl
theorem dX7_wordOf_192 : decode cX7_wordOf 192 = .ok (.ifCond .ne 6, 3) := of_row (r := (192, .ifCond .ne 6, 3)) DX7_wordOf_b1 45 rfl
theorem dX7_wordOf_195 : decode cX7_wordOf 195 = .ok (.bipush 117, 2) := of_row (r := (195, .bipush 117, 2)) DX7_wordOf_b1 46 rfl
theorem dX7_wordOf_197 : decode cX7_wordOf 197 = .ok (.ireturn, 1) := of_row (r := (197, .ireturn, 1)) DX7_wordOf_b1 47 rfl
theorem dX7_wordOf_198 : decode cX7_wordOf 198 = .ok (.lload_n 0, 1) := of_row (r := (198, .lload_n 0, 1)) DX7_wordOf_b1 48 rfl
theorem dX7_wordOf_199 : decode cX7_wordOf 199 = .ok (.ldc2_w 202, 3) := of_row (r := (199, .ldc2_w 202, 3)) DX7_wordOf_b1 49 rfl
theorem dX7_wordOf_202 : decode cX7_wordOf 202 = .ok (.lcmp, 1) := of_row (r := (202, .lcmp, 1)) DX7_wordOf_b1 50 rfl
theorem dX7_wordOf_203 : decode cX7_wordOf 203 = .ok (.ifCond .ne 6, 3) := of_row (r := (203, .ifCond .ne 6, 3)) DX7_wordOf_b1 51 rfl
theorem dX7_wordOf_206 : decode cX7_wordOf 206 = .ok (.bipush 118, 2) := of_row (r := (206, .bipush 118, 2)) DX7_wordOf_b1 52 rfl
theorem dX7_wordOf_208 : decode cX7_wordOf 208 = .ok (.ireturn, 1) := of_row (r := (208, .ireturn, 1)) DX7_wordOf_b1 53 rfl
theorem dX7_wordOf_209 : decode cX7_wordOf 209 = .ok (.lload_n 0, 1) := of_row (r := (209, .lload_n 0, 1)) DX7_wordOf_b1 54 rfl
theorem dX7_wordOf_210 : decode cX7_wordOf 210 = .ok (.ldc2_w 204, 3) := of_row (r := (210, .ldc2_w 204, 3)) DX7_wordOf_b1 55 rfl
theorem dX7_wordOf_213 : decode cX7_wordOf 213 = .ok (.lcmp, 1) := of_row (r := (213, .lcmp, 1)) DX7_wordOf_b1 56 rfl
theorem dX7_wordOf_214 : decode cX7_wordOf 214 = .ok (.ifCond .ne 6, 3) := of_row (r := (214, .ifCond .ne 6, 3)) DX7_wordOf_b1 57 rfl
theorem dX7_wordOf_217 : decode cX7_wordOf 217 = .ok (.bipush 119, 2) := of_row (r := (217, .bipush 119, 2)) DX7_wordOf_b1 58 rfl
theorem dX7_wordOf_219 : decode cX7_wordOf 219 = .ok (.ireturn, 1) := of_row (r := (219, .ireturn, 1)) DX7_wordOf_b1 59 rfl
set_option maxRecDepth 20000 in
theorem DX7_wordOf_b2 : ([(220, .lload_n 0, 1), (221, .ldc2_w 206, 3), (224, .lcmp, 1), (225, .ifCond .ne 6, 3), (228, .bipush 120, 2), (230, .ireturn, 1), (231, .bipush 51, 2), (233, .ireturn, 1)] : List (Nat × Instr × Nat)).all (fun r => decide (decode cX7_wordOf r.1 = .ok r.2)) = true := by decide +kernel
theorem dX7_wordOf_220 : decode cX7_wordOf 220 = .ok (.lload_n 0, 1) := of_row (r := (220, .lload_n 0, 1)) DX7_wordOf_b2 0 rfl
theorem dX7_wordOf_221 : decode cX7_wordOf 221 = .ok (.ldc2_w 206, 3) := of_row (r := (221, .ldc2_w 206, 3)) DX7_wordOf_b2 1 rfl
theorem dX7_wordOf_224 : decode cX7_wordOf 224 = .ok (.lcmp, 1) := of_row (r := (224, .lcmp, 1)) DX7_wordOf_b2 2 rfl
theorem dX7_wordOf_225 : decode cX7_wordOf 225 = .ok (.ifCond .ne 6, 3) := of_row (r := (225, .ifCond .ne 6, 3)) DX7_wordOf_b2 3 rfl
theorem dX7_wordOf_228 : decode cX7_wordOf 228 = .ok (.bipush 120, 2) := of_row (r := (228, .bipush 120, 2)) DX7_wordOf_b2 4 rfl
theorem dX7_wordOf_230 : decode cX7_wordOf 230 = .ok (.ireturn, 1) := of_row (r := (230, .ireturn, 1)) DX7_wordOf_b2 5 rfl
theorem dX7_wordOf_231 : decode cX7_wordOf 231 = .ok (.bipush 51, 2) := of_row (r := (231, .bipush 51, 2)) DX7_wordOf_b2 6 rfl
theorem dX7_wordOf_233 : decode cX7_wordOf 233 = .ok (.ireturn, 1) := of_row (r := (233, .ireturn, 1)) DX7_wordOf_b2 7 rfl
set_option maxRecDepth 20000 in
theorem DX7_wrong_b0 : ([(0, .aload_n 0, 1), (1, .aload_n 0, 1), (2, .getfield 208, 3), (5, .ifCond .ge 10, 3), (8, .aload_n 0, 1), (9, .getfield 139, 3), (12, .goto 7, 3), (15, .aload_n 0, 1), (16, .getfield 208, 3), (19, .putfield 208, 3), (22, .return_, 1)] : List (Nat × Instr × Nat)).all (fun r => decide (decode cX7_wrong r.1 = .ok r.2)) = true := by decide +kernel
theorem dX7_wrong_0 : decode cX7_wrong 0 = .ok (.aload_n 0, 1) := of_row (r := (0, .aload_n 0, 1)) DX7_wrong_b0 0 rfl
theorem dX7_wrong_1 : decode cX7_wrong 1 = .ok (.aload_n 0, 1) := of_row (r := (1, .aload_n 0, 1)) DX7_wrong_b0 1 rfl
theorem dX7_wrong_2 : decode cX7_wrong 2 = .ok (.getfield 208, 3) := of_row (r := (2, .getfield 208, 3)) DX7_wrong_b0 2 rfl
theorem dX7_wrong_5 : decode cX7_wrong 5 = .ok (.ifCond .ge 10, 3) := of_row (r := (5, .ifCond .ge 10, 3)) DX7_wrong_b0 3 rfl
theorem dX7_wrong_8 : decode cX7_wrong 8 = .ok (.aload_n 0, 1) := of_row (r := (8, .aload_n 0, 1)) DX7_wrong_b0 4 rfl
theorem dX7_wrong_9 : decode cX7_wrong 9 = .ok (.getfield 139, 3) := of_row (r := (9, .getfield 139, 3)) DX7_wrong_b0 5 rfl
theorem dX7_wrong_12 : decode cX7_wrong 12 = .ok (.goto 7, 3) := of_row (r := (12, .goto 7, 3)) DX7_wrong_b0 6 rfl
theorem dX7_wrong_15 : decode cX7_wrong 15 = .ok (.aload_n 0, 1) := of_row (r := (15, .aload_n 0, 1)) DX7_wrong_b0 7 rfl
theorem dX7_wrong_16 : decode cX7_wrong 16 = .ok (.getfield 208, 3) := of_row (r := (16, .getfield 208, 3)) DX7_wrong_b0 8 rfl
theorem dX7_wrong_19 : decode cX7_wrong 19 = .ok (.putfield 208, 3) := of_row (r := (19, .putfield 208, 3)) DX7_wrong_b0 9 rfl
theorem dX7_wrong_22 : decode cX7_wrong 22 = .ok (.return_, 1) := of_row (r := (22, .return_, 1)) DX7_wrong_b0 10 rfl
set_option maxRecDepth 20000 in
theorem DX7_takes_b0 : ([(0, .aload_n 0, 1), (1, .getfield 208, 3), (4, .ifCond .lt 5, 3), (7, .iconst 0, 1), (8, .ireturn, 1), (9, .aload_n 0, 1), (10, .getfield 142, 3), (13, .iload_n 1, 1), (14, .if_icmp .eq 9, 3), (17, .aload_n 0, 1), (18, .invokevirtual 211, 3), (21, .iconst 0, 1), (22, .ireturn, 1), (23, .aload_n 0, 1), (24, .invokevirtual 214, 3), (27, .iconst 1, 1), (28, .ireturn, 1)] : List (Nat × Instr × Nat)).all (fun r => decide (decode cX7_takes r.1 = .ok r.2)) = true := by decide +kernel
theorem dX7_takes_0 : decode cX7_takes 0 = .ok (.aload_n 0, 1) := of_row (r := (0, .aload_n 0, 1)) DX7_takes_b0 0 rfl
theorem dX7_takes_1 : decode cX7_takes 1 = .ok (.getfield 208, 3) := of_row (r := (1, .getfield 208, 3)) DX7_takes_b0 1 rfl
theorem dX7_takes_4 : decode cX7_takes 4 = .ok (.ifCond .lt 5, 3) := of_row (r := (4, .ifCond .lt 5, 3)) DX7_takes_b0 2 rfl
theorem dX7_takes_7 : decode cX7_takes 7 = .ok (.iconst 0, 1) := of_row (r := (7, .iconst 0, 1)) DX7_takes_b0 3 rfl
theorem dX7_takes_8 : decode cX7_takes 8 = .ok (.ireturn, 1) := of_row (r := (8, .ireturn, 1)) DX7_takes_b0 4 rfl
theorem dX7_takes_9 : decode cX7_takes 9 = .ok (.aload_n 0, 1) := of_row (r := (9, .aload_n 0, 1)) DX7_takes_b0 5 rfl
theorem dX7_takes_10 : decode cX7_takes 10 = .ok (.getfield 142, 3) := of_row (r := (10, .getfield 142, 3)) DX7_takes_b0 6 rfl
theorem dX7_takes_13 : decode cX7_takes 13 = .ok (.iload_n 1, 1) := of_row (r := (13, .iload_n 1, 1)) DX7_takes_b0 7 rfl
theorem dX7_takes_14 : decode cX7_takes 14 = .ok (.if_icmp .eq 9, 3) := of_row (r := (14, .if_icmp .eq 9, 3)) DX7_takes_b0 8 rfl
theorem dX7_takes_17 : decode cX7_takes 17 = .ok (.aload_n 0, 1) := of_row (r := (17, .aload_n 0, 1)) DX7_takes_b0 9 rfl
theorem dX7_takes_18 : decode cX7_takes 18 = .ok (.invokevirtual 211, 3) := of_row (r := (18, .invokevirtual 211, 3)) DX7_takes_b0 10 rfl
theorem dX7_takes_21 : decode cX7_takes 21 = .ok (.iconst 0, 1) := of_row (r := (21, .iconst 0, 1)) DX7_takes_b0 11 rfl
theorem dX7_takes_22 : decode cX7_takes 22 = .ok (.ireturn, 1) := of_row (r := (22, .ireturn, 1)) DX7_takes_b0 12 rfl
theorem dX7_takes_23 : decode cX7_takes 23 = .ok (.aload_n 0, 1) := of_row (r := (23, .aload_n 0, 1)) DX7_takes_b0 13 rfl
theorem dX7_takes_24 : decode cX7_takes 24 = .ok (.invokevirtual 214, 3) := of_row (r := (24, .invokevirtual 214, 3)) DX7_takes_b0 14 rfl
theorem dX7_takes_27 : decode cX7_takes 27 = .ok (.iconst 1, 1) := of_row (r := (27, .iconst 1, 1)) DX7_takes_b0 15 rfl
theorem dX7_takes_28 : decode cX7_takes 28 = .ok (.ireturn, 1) := of_row (r := (28, .ireturn, 1)) DX7_takes_b0 16 rfl
set_option maxRecDepth 20000 in
theorem DX7_puts_b0 : ([(0, .aload_n 0, 1), (1, .getfield 29, 3), (4, .aload_n 0, 1), (5, .getfield 217, 3), (8, .iload_n 1, 1), (9, .iastore, 1), (10, .aload_n 0, 1), (11, .getfield 32, 3), (14, .aload_n 0, 1), (15, .getfield 217, 3), (18, .iload_n 2, 1), (19, .iastore, 1), (20, .aload_n 0, 1), (21, .dup, 1), (22, .getfield 217, 3), (25, .iconst 1, 1), (26, .iadd, 1), (27, .putfield 217, 3), (30, .return_, 1)] : List (Nat × Instr × Nat)).all (fun r => decide (decode cX7_puts r.1 = .ok r.2)) = true := by decide +kernel
theorem dX7_puts_0 : decode cX7_puts 0 = .ok (.aload_n 0, 1) := of_row (r := (0, .aload_n 0, 1)) DX7_puts_b0 0 rfl
theorem dX7_puts_1 : decode cX7_puts 1 = .ok (.getfield 29, 3) := of_row (r := (1, .getfield 29, 3)) DX7_puts_b0 1 rfl
theorem dX7_puts_4 : decode cX7_puts 4 = .ok (.aload_n 0, 1) := of_row (r := (4, .aload_n 0, 1)) DX7_puts_b0 2 rfl
theorem dX7_puts_5 : decode cX7_puts 5 = .ok (.getfield 217, 3) := of_row (r := (5, .getfield 217, 3)) DX7_puts_b0 3 rfl
theorem dX7_puts_8 : decode cX7_puts 8 = .ok (.iload_n 1, 1) := of_row (r := (8, .iload_n 1, 1)) DX7_puts_b0 4 rfl
theorem dX7_puts_9 : decode cX7_puts 9 = .ok (.iastore, 1) := of_row (r := (9, .iastore, 1)) DX7_puts_b0 5 rfl
theorem dX7_puts_10 : decode cX7_puts 10 = .ok (.aload_n 0, 1) := of_row (r := (10, .aload_n 0, 1)) DX7_puts_b0 6 rfl
theorem dX7_puts_11 : decode cX7_puts 11 = .ok (.getfield 32, 3) := of_row (r := (11, .getfield 32, 3)) DX7_puts_b0 7 rfl
theorem dX7_puts_14 : decode cX7_puts 14 = .ok (.aload_n 0, 1) := of_row (r := (14, .aload_n 0, 1)) DX7_puts_b0 8 rfl
theorem dX7_puts_15 : decode cX7_puts 15 = .ok (.getfield 217, 3) := of_row (r := (15, .getfield 217, 3)) DX7_puts_b0 9 rfl
theorem dX7_puts_18 : decode cX7_puts 18 = .ok (.iload_n 2, 1) := of_row (r := (18, .iload_n 2, 1)) DX7_puts_b0 10 rfl
theorem dX7_puts_19 : decode cX7_puts 19 = .ok (.iastore, 1) := of_row (r := (19, .iastore, 1)) DX7_puts_b0 11 rfl
theorem dX7_puts_20 : decode cX7_puts 20 = .ok (.aload_n 0, 1) := of_row (r := (20, .aload_n 0, 1)) DX7_puts_b0 12 rfl
theorem dX7_puts_21 : decode cX7_puts 21 = .ok (.dup, 1) := of_row (r := (21, .dup, 1)) DX7_puts_b0 13 rfl
theorem dX7_puts_22 : decode cX7_puts 22 = .ok (.getfield 217, 3) := of_row (r := (22, .getfield 217, 3)) DX7_puts_b0 14 rfl
theorem dX7_puts_25 : decode cX7_puts 25 = .ok (.iconst 1, 1) := of_row (r := (25, .iconst 1, 1)) DX7_puts_b0 15 rfl
theorem dX7_puts_26 : decode cX7_puts 26 = .ok (.iadd, 1) := of_row (r := (26, .iadd, 1)) DX7_puts_b0 16 rfl
theorem dX7_puts_27 : decode cX7_puts 27 = .ok (.putfield 217, 3) := of_row (r := (27, .putfield 217, 3)) DX7_puts_b0 17 rfl
theorem dX7_puts_30 : decode cX7_puts 30 = .ok (.return_, 1) := of_row (r := (30, .return_, 1)) DX7_puts_b0 18 rfl
set_option maxRecDepth 20000 in
theorem DX7_text_b0 : ([(0, .aload_n 0, 1), (1, .getfield 220, 3), (4, .bipush 10, 2), (6, .if_icmp .ne 6, 3), (9, .bipush (-3), 2), (11, .ireturn, 1), (12, .aload_n 0, 1), (13, .iconst 0, 1), (14, .putfield 136, 3), (17, .aload_n 0, 1), (18, .iconst (-1), 1), (19, .putfield 208, 3), (22, .aload_n 0, 1), (23, .getfield 220, 3), (26, .istore_n 1, 1), (27, .aload_n 0, 1), (28, .sipush 900, 3), (31, .iload_n 1, 1), (32, .imul, 1), (33, .putfield 217, 3), (36, .aload_n 0, 1), (37, .getfield 13, 3), (40, .iload_n 1, 1), (41, .iconst 0, 1), (42, .iastore, 1), (43, .aload_n 0, 1), (44, .invokevirtual 214, 3), (47, .aload_n 0, 1), (48, .iload_n 1, 1), (49, .invokevirtual 223, 3), (52, .aload_n 0, 1), (53, .getfield 208, 3), (56, .ifCond .ge 10, 3), (59, .aload_n 0, 1), (60, .getfield 142, 3), (63, .ifCond .ne (-16), 3), (66, .aload_n 0, 1), (67, .iconst 0, 1), (68, .putfield 125, 3), (71, .aload_n 0, 1), (72, .getfield 208, 3), (75, .ifCond .lt 11, 3), (78, .bipush (-100), 2), (80, .aload_n 0, 1), (81, .getfield 208, 3), (84, .isub, 1), (85, .ireturn, 1), (86, .aload_n 0, 1), (87, .dup, 1), (88, .getfield 220, 3), (91, .iconst 1, 1), (92, .iadd, 1), (93, .putfield 220, 3), (96, .iload_n 1, 1), (97, .ireturn, 1)] : List (Nat × Instr × Nat)).all (fun r => decide (decode cX7_text r.1 = .ok r.2)) = true := by decide +kernel
theorem dX7_text_0 : decode cX7_text 0 = .ok (.aload_n 0, 1) := of_row (r := (0, .aload_n 0, 1)) DX7_text_b0 0 rfl
theorem dX7_text_1 : decode cX7_text 1 = .ok (.getfield 220, 3) := of_row (r := (1, .getfield 220, 3)) DX7_text_b0 1 rfl
theorem dX7_text_4 : decode cX7_text 4 = .ok (.bipush 10, 2) := of_row (r := (4, .bipush 10, 2)) DX7_text_b0 2 rfl
theorem dX7_text_6 : decode cX7_text 6 = .ok (.if_icmp .ne 6, 3) := of_row (r := (6, .if_icmp .ne 6, 3)) DX7_text_b0 3 rfl
theorem dX7_text_9 : decode cX7_text 9 = .ok (.bipush (-3), 2) := of_row (r := (9, .bipush (-3), 2)) DX7_text_b0 4 rfl
theorem dX7_text_11 : decode cX7_text 11 = .ok (.ireturn, 1) := of_row (r := (11, .ireturn, 1)) DX7_text_b0 5 rfl
theorem dX7_text_12 : decode cX7_text 12 = .ok (.aload_n 0, 1) := of_row (r := (12, .aload_n 0, 1)) DX7_text_b0 6 rfl
theorem dX7_text_13 : decode cX7_text 13 = .ok (.iconst 0, 1) := of_row (r := (13, .iconst 0, 1)) DX7_text_b0 7 rfl
theorem dX7_text_14 : decode cX7_text 14 = .ok (.putfield 136, 3) := of_row (r := (14, .putfield 136, 3)) DX7_text_b0 8 rfl
theorem dX7_text_17 : decode cX7_text 17 = .ok (.aload_n 0, 1) := of_row (r := (17, .aload_n 0, 1)) DX7_text_b0 9 rfl
theorem dX7_text_18 : decode cX7_text 18 = .ok (.iconst (-1), 1) := of_row (r := (18, .iconst (-1), 1)) DX7_text_b0 10 rfl
theorem dX7_text_19 : decode cX7_text 19 = .ok (.putfield 208, 3) := of_row (r := (19, .putfield 208, 3)) DX7_text_b0 11 rfl
theorem dX7_text_22 : decode cX7_text 22 = .ok (.aload_n 0, 1) := of_row (r := (22, .aload_n 0, 1)) DX7_text_b0 12 rfl
theorem dX7_text_23 : decode cX7_text 23 = .ok (.getfield 220, 3) := of_row (r := (23, .getfield 220, 3)) DX7_text_b0 13 rfl
theorem dX7_text_26 : decode cX7_text 26 = .ok (.istore_n 1, 1) := of_row (r := (26, .istore_n 1, 1)) DX7_text_b0 14 rfl
theorem dX7_text_27 : decode cX7_text 27 = .ok (.aload_n 0, 1) := of_row (r := (27, .aload_n 0, 1)) DX7_text_b0 15 rfl
theorem dX7_text_28 : decode cX7_text 28 = .ok (.sipush 900, 3) := of_row (r := (28, .sipush 900, 3)) DX7_text_b0 16 rfl
theorem dX7_text_31 : decode cX7_text 31 = .ok (.iload_n 1, 1) := of_row (r := (31, .iload_n 1, 1)) DX7_text_b0 17 rfl
theorem dX7_text_32 : decode cX7_text 32 = .ok (.imul, 1) := of_row (r := (32, .imul, 1)) DX7_text_b0 18 rfl
theorem dX7_text_33 : decode cX7_text 33 = .ok (.putfield 217, 3) := of_row (r := (33, .putfield 217, 3)) DX7_text_b0 19 rfl
theorem dX7_text_36 : decode cX7_text 36 = .ok (.aload_n 0, 1) := of_row (r := (36, .aload_n 0, 1)) DX7_text_b0 20 rfl
theorem dX7_text_37 : decode cX7_text 37 = .ok (.getfield 13, 3) := of_row (r := (37, .getfield 13, 3)) DX7_text_b0 21 rfl
theorem dX7_text_40 : decode cX7_text 40 = .ok (.iload_n 1, 1) := of_row (r := (40, .iload_n 1, 1)) DX7_text_b0 22 rfl
theorem dX7_text_41 : decode cX7_text 41 = .ok (.iconst 0, 1) := of_row (r := (41, .iconst 0, 1)) DX7_text_b0 23 rfl
theorem dX7_text_42 : decode cX7_text 42 = .ok (.iastore, 1) := of_row (r := (42, .iastore, 1)) DX7_text_b0 24 rfl
theorem dX7_text_43 : decode cX7_text 43 = .ok (.aload_n 0, 1) := of_row (r := (43, .aload_n 0, 1)) DX7_text_b0 25 rfl
theorem dX7_text_44 : decode cX7_text 44 = .ok (.invokevirtual 214, 3) := of_row (r := (44, .invokevirtual 214, 3)) DX7_text_b0 26 rfl
theorem dX7_text_47 : decode cX7_text 47 = .ok (.aload_n 0, 1) := of_row (r := (47, .aload_n 0, 1)) DX7_text_b0 27 rfl
theorem dX7_text_48 : decode cX7_text 48 = .ok (.iload_n 1, 1) := of_row (r := (48, .iload_n 1, 1)) DX7_text_b0 28 rfl
theorem dX7_text_49 : decode cX7_text 49 = .ok (.invokevirtual 223, 3) := of_row (r := (49, .invokevirtual 223, 3)) DX7_text_b0 29 rfl
theorem dX7_text_52 : decode cX7_text 52 = .ok (.aload_n 0, 1) := of_row (r := (52, .aload_n 0, 1)) DX7_text_b0 30 rfl
theorem dX7_text_53 : decode cX7_text 53 = .ok (.getfield 208, 3) := of_row (r := (53, .getfield 208, 3)) DX7_text_b0 31 rfl
theorem dX7_text_56 : decode cX7_text 56 = .ok (.ifCond .ge 10, 3) := of_row (r := (56, .ifCond .ge 10, 3)) DX7_text_b0 32 rfl
theorem dX7_text_59 : decode cX7_text 59 = .ok (.aload_n 0, 1) := of_row (r := (59, .aload_n 0, 1)) DX7_text_b0 33 rfl
theorem dX7_text_60 : decode cX7_text 60 = .ok (.getfield 142, 3) := of_row (r := (60, .getfield 142, 3)) DX7_text_b0 34 rfl
theorem dX7_text_63 : decode cX7_text 63 = .ok (.ifCond .ne (-16), 3) := of_row (r := (63, .ifCond .ne (-16), 3)) DX7_text_b0 35 rfl
theorem dX7_text_66 : decode cX7_text 66 = .ok (.aload_n 0, 1) := of_row (r := (66, .aload_n 0, 1)) DX7_text_b0 36 rfl
theorem dX7_text_67 : decode cX7_text 67 = .ok (.iconst 0, 1) := of_row (r := (67, .iconst 0, 1)) DX7_text_b0 37 rfl
theorem dX7_text_68 : decode cX7_text 68 = .ok (.putfield 125, 3) := of_row (r := (68, .putfield 125, 3)) DX7_text_b0 38 rfl
theorem dX7_text_71 : decode cX7_text 71 = .ok (.aload_n 0, 1) := of_row (r := (71, .aload_n 0, 1)) DX7_text_b0 39 rfl
theorem dX7_text_72 : decode cX7_text 72 = .ok (.getfield 208, 3) := of_row (r := (72, .getfield 208, 3)) DX7_text_b0 40 rfl
theorem dX7_text_75 : decode cX7_text 75 = .ok (.ifCond .lt 11, 3) := of_row (r := (75, .ifCond .lt 11, 3)) DX7_text_b0 41 rfl
theorem dX7_text_78 : decode cX7_text 78 = .ok (.bipush (-100), 2) := of_row (r := (78, .bipush (-100), 2)) DX7_text_b0 42 rfl
theorem dX7_text_80 : decode cX7_text 80 = .ok (.aload_n 0, 1) := of_row (r := (80, .aload_n 0, 1)) DX7_text_b0 43 rfl
theorem dX7_text_81 : decode cX7_text 81 = .ok (.getfield 208, 3) := of_row (r := (81, .getfield 208, 3)) DX7_text_b0 44 rfl
theorem dX7_text_84 : decode cX7_text 84 = .ok (.isub, 1) := of_row (r := (84, .isub, 1)) DX7_text_b0 45 rfl
theorem dX7_text_85 : decode cX7_text 85 = .ok (.ireturn, 1) := of_row (r := (85, .ireturn, 1)) DX7_text_b0 46 rfl
theorem dX7_text_86 : decode cX7_text 86 = .ok (.aload_n 0, 1) := of_row (r := (86, .aload_n 0, 1)) DX7_text_b0 47 rfl
theorem dX7_text_87 : decode cX7_text 87 = .ok (.dup, 1) := of_row (r := (87, .dup, 1)) DX7_text_b0 48 rfl
theorem dX7_text_88 : decode cX7_text 88 = .ok (.getfield 220, 3) := of_row (r := (88, .getfield 220, 3)) DX7_text_b0 49 rfl
theorem dX7_text_91 : decode cX7_text 91 = .ok (.iconst 1, 1) := of_row (r := (91, .iconst 1, 1)) DX7_text_b0 50 rfl
theorem dX7_text_92 : decode cX7_text 92 = .ok (.iadd, 1) := of_row (r := (92, .iadd, 1)) DX7_text_b0 51 rfl
theorem dX7_text_93 : decode cX7_text 93 = .ok (.putfield 220, 3) := of_row (r := (93, .putfield 220, 3)) DX7_text_b0 52 rfl
theorem dX7_text_96 : decode cX7_text 96 = .ok (.iload_n 1, 1) := of_row (r := (96, .iload_n 1, 1)) DX7_text_b0 53 rfl
theorem dX7_text_97 : decode cX7_text 97 = .ok (.ireturn, 1) := of_row (r := (97, .ireturn, 1)) DX7_text_b0 54 rfl
set_option maxRecDepth 20000 in
theorem DX7_statement_b0 : ([(0, .aload_n 0, 1), (1, .getfield 13, 3), (4, .iload_n 1, 1), (5, .iaload, 1), (6, .bipush 40, 2), (8, .if_icmp .ne 8, 3), (11, .aload_n 0, 1), (12, .invokevirtual 211, 3), (15, .return_, 1), (16, .bipush 40, 2), (18, .iload_n 1, 1), (19, .imul, 1), (20, .aload_n 0, 1), (21, .getfield 13, 3), (24, .iload_n 1, 1), (25, .iaload, 1), (26, .iadd, 1), (27, .istore_n 2, 1), (28, .aload_n 0, 1), (29, .getfield 23, 3), (32, .iload_n 2, 1), (33, .aload_n 0, 1), (34, .getfield 217, 3), (37, .iastore, 1), (38, .aload_n 0, 1), (39, .getfield 142, 3), (42, .bipush 106, 2), (44, .if_icmp .ne 18, 3), (47, .aload_n 0, 1), (48, .invokevirtual 214, 3), (51, .aload_n 0, 1), (52, .invokevirtual 226, 3), (55, .aload_n 0, 1), (56, .bipush 107, 2), (58, .invokevirtual 229, 3), (61, .istore_n 3, 1), (62, .aload_n 0, 1), (63, .getfield 26, 3), (66, .iload_n 2, 1), (67, .aload_n 0, 1), (68, .getfield 217, 3), (71, .iastore, 1), (72, .aload_n 0, 1), (73, .getfield 208, 3), (76, .ifCond .lt 4, 3), (79, .return_, 1), (80, .aload_n 0, 1), (81, .getfield 142, 3), (84, .bipush 100, 2), (86, .bipush 105, 2), (88, .invokestatic 132, 3), (91, .ifCond .ne 8, 3), (94, .aload_n 0, 1), (95, .invokevirtual 211, 3), (98, .return_, 1), (99, .aload_n 0, 1), (100, .getfield 17, 3), (103, .iload_n 2, 1), (104, .aload_n 0, 1), (105, .getfield 142, 3)] : List (Nat × Instr × Nat)).all (fun r => decide (decode cX7_statement r.1 = .ok r.2)) = true := by decide +kernel
theorem dX7_statement_0 : decode cX7_statement 0 = .ok (.aload_n 0, 1) := of_row (r := (0, .aload_n 0, 1)) DX7_statement_b0 0 rfl
theorem dX7_statement_1 : decode cX7_statement 1 = .ok (.getfield 13, 3) := of_row (r := (1, .getfield 13, 3)) DX7_statement_b0 1 rfl
theorem dX7_statement_4 : decode cX7_statement 4 = .ok (.iload_n 1, 1) := of_row (r := (4, .iload_n 1, 1)) DX7_statement_b0 2 rfl
theorem dX7_statement_5 : decode cX7_statement 5 = .ok (.iaload, 1) := of_row (r := (5, .iaload, 1)) DX7_statement_b0 3 rfl
theorem dX7_statement_6 : decode cX7_statement 6 = .ok (.bipush 40, 2) := of_row (r := (6, .bipush 40, 2)) DX7_statement_b0 4 rfl
theorem dX7_statement_8 : decode cX7_statement 8 = .ok (.if_icmp .ne 8, 3) := of_row (r := (8, .if_icmp .ne 8, 3)) DX7_statement_b0 5 rfl
theorem dX7_statement_11 : decode cX7_statement 11 = .ok (.aload_n 0, 1) := of_row (r := (11, .aload_n 0, 1)) DX7_statement_b0 6 rfl
theorem dX7_statement_12 : decode cX7_statement 12 = .ok (.invokevirtual 211, 3) := of_row (r := (12, .invokevirtual 211, 3)) DX7_statement_b0 7 rfl
theorem dX7_statement_15 : decode cX7_statement 15 = .ok (.return_, 1) := of_row (r := (15, .return_, 1)) DX7_statement_b0 8 rfl
theorem dX7_statement_16 : decode cX7_statement 16 = .ok (.bipush 40, 2) := of_row (r := (16, .bipush 40, 2)) DX7_statement_b0 9 rfl
theorem dX7_statement_18 : decode cX7_statement 18 = .ok (.iload_n 1, 1) := of_row (r := (18, .iload_n 1, 1)) DX7_statement_b0 10 rfl
theorem dX7_statement_19 : decode cX7_statement 19 = .ok (.imul, 1) := of_row (r := (19, .imul, 1)) DX7_statement_b0 11 rfl
theorem dX7_statement_20 : decode cX7_statement 20 = .ok (.aload_n 0, 1) := of_row (r := (20, .aload_n 0, 1)) DX7_statement_b0 12 rfl
theorem dX7_statement_21 : decode cX7_statement 21 = .ok (.getfield 13, 3) := of_row (r := (21, .getfield 13, 3)) DX7_statement_b0 13 rfl
theorem dX7_statement_24 : decode cX7_statement 24 = .ok (.iload_n 1, 1) := of_row (r := (24, .iload_n 1, 1)) DX7_statement_b0 14 rfl
theorem dX7_statement_25 : decode cX7_statement 25 = .ok (.iaload, 1) := of_row (r := (25, .iaload, 1)) DX7_statement_b0 15 rfl
theorem dX7_statement_26 : decode cX7_statement 26 = .ok (.iadd, 1) := of_row (r := (26, .iadd, 1)) DX7_statement_b0 16 rfl
theorem dX7_statement_27 : decode cX7_statement 27 = .ok (.istore_n 2, 1) := of_row (r := (27, .istore_n 2, 1)) DX7_statement_b0 17 rfl
theorem dX7_statement_28 : decode cX7_statement 28 = .ok (.aload_n 0, 1) := of_row (r := (28, .aload_n 0, 1)) DX7_statement_b0 18 rfl
theorem dX7_statement_29 : decode cX7_statement 29 = .ok (.getfield 23, 3) := of_row (r := (29, .getfield 23, 3)) DX7_statement_b0 19 rfl
theorem dX7_statement_32 : decode cX7_statement 32 = .ok (.iload_n 2, 1) := of_row (r := (32, .iload_n 2, 1)) DX7_statement_b0 20 rfl
theorem dX7_statement_33 : decode cX7_statement 33 = .ok (.aload_n 0, 1) := of_row (r := (33, .aload_n 0, 1)) DX7_statement_b0 21 rfl
theorem dX7_statement_34 : decode cX7_statement 34 = .ok (.getfield 217, 3) := of_row (r := (34, .getfield 217, 3)) DX7_statement_b0 22 rfl
theorem dX7_statement_37 : decode cX7_statement 37 = .ok (.iastore, 1) := of_row (r := (37, .iastore, 1)) DX7_statement_b0 23 rfl
theorem dX7_statement_38 : decode cX7_statement 38 = .ok (.aload_n 0, 1) := of_row (r := (38, .aload_n 0, 1)) DX7_statement_b0 24 rfl
theorem dX7_statement_39 : decode cX7_statement 39 = .ok (.getfield 142, 3) := of_row (r := (39, .getfield 142, 3)) DX7_statement_b0 25 rfl
