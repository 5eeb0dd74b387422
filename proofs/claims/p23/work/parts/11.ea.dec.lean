set_option maxRecDepth 20000 in
theorem DL_law_b0 : ([(0, .new 7, 3), (3, .dup, 1), (4, .invokespecial 9, 3), (7, .astore_n 1, 1), (8, .new 10, 3), (11, .dup, 1), (12, .invokespecial 12, 3), (15, .astore_n 2, 1), (16, .iconst 0, 1), (17, .istore_n 3, 1), (18, .iload_n 3, 1), (19, .aload_n 0, 1), (20, .arraylength, 1), (21, .bipush 6, 2), (23, .isub, 1), (24, .if_icmp .gt 858, 3), (27, .aload_n 0, 1), (28, .iload_n 3, 1), (29, .iaload, 1), (30, .bipush 31, 2), (32, .iand, 1), (33, .tableswitch 843 0 23 #[111, 174, 197, 210, 233, 266, 289, 332, 375, 428, 441, 474, 497, 530, 563, 596, 629, 662, 695, 728, 751, 774, 797, 820], 111), (144, .aload_n 1, 1), (145, .aload_n 0, 1), (146, .iload_n 3, 1), (147, .iconst 1, 1), (148, .iadd, 1), (149, .iaload, 1), (150, .aload_n 0, 1), (151, .iload_n 3, 1), (152, .iconst 2, 1), (153, .iadd, 1), (154, .iaload, 1), (155, .aload_n 0, 1), (156, .iload_n 3, 1), (157, .iconst 3, 1), (158, .iadd, 1), (159, .iaload, 1), (160, .aload_n 0, 1), (161, .iload_n 3, 1), (162, .iconst 4, 1), (163, .iadd, 1), (164, .iaload, 1), (165, .aload_n 0, 1), (166, .iload_n 3, 1), (167, .iconst 5, 1), (168, .iadd, 1), (169, .iaload, 1), (170, .invokevirtual 13, 3), (173, .pop, 1), (174, .aload_n 2, 1), (175, .aload_n 0, 1), (176, .iload_n 3, 1), (177, .iconst 1, 1), (178, .iadd, 1), (179, .iaload, 1), (180, .aload_n 0, 1), (181, .iload_n 3, 1), (182, .iconst 2, 1), (183, .iadd, 1)] : List (Nat × Instr × Nat)).all (fun r => decide (decode cL_law r.1 = .ok r.2)) = true := by decide +kernel
theorem dL_law_0 : decode cL_law 0 = .ok (.new 7, 3) := of_row (r := (0, .new 7, 3)) DL_law_b0 0 rfl
theorem dL_law_3 : decode cL_law 3 = .ok (.dup, 1) := of_row (r := (3, .dup, 1)) DL_law_b0 1 rfl
theorem dL_law_4 : decode cL_law 4 = .ok (.invokespecial 9, 3) := of_row (r := (4, .invokespecial 9, 3)) DL_law_b0 2 rfl
theorem dL_law_7 : decode cL_law 7 = .ok (.astore_n 1, 1) := of_row (r := (7, .astore_n 1, 1)) DL_law_b0 3 rfl
theorem dL_law_8 : decode cL_law 8 = .ok (.new 10, 3) := of_row (r := (8, .new 10, 3)) DL_law_b0 4 rfl
theorem dL_law_11 : decode cL_law 11 = .ok (.dup, 1) := of_row (r := (11, .dup, 1)) DL_law_b0 5 rfl
theorem dL_law_12 : decode cL_law 12 = .ok (.invokespecial 12, 3) := of_row (r := (12, .invokespecial 12, 3)) DL_law_b0 6 rfl
theorem dL_law_15 : decode cL_law 15 = .ok (.astore_n 2, 1) := of_row (r := (15, .astore_n 2, 1)) DL_law_b0 7 rfl
theorem dL_law_16 : decode cL_law 16 = .ok (.iconst 0, 1) := of_row (r := (16, .iconst 0, 1)) DL_law_b0 8 rfl
theorem dL_law_17 : decode cL_law 17 = .ok (.istore_n 3, 1) := of_row (r := (17, .istore_n 3, 1)) DL_law_b0 9 rfl
theorem dL_law_18 : decode cL_law 18 = .ok (.iload_n 3, 1) := of_row (r := (18, .iload_n 3, 1)) DL_law_b0 10 rfl
theorem dL_law_19 : decode cL_law 19 = .ok (.aload_n 0, 1) := of_row (r := (19, .aload_n 0, 1)) DL_law_b0 11 rfl
theorem dL_law_20 : decode cL_law 20 = .ok (.arraylength, 1) := of_row (r := (20, .arraylength, 1)) DL_law_b0 12 rfl
theorem dL_law_21 : decode cL_law 21 = .ok (.bipush 6, 2) := of_row (r := (21, .bipush 6, 2)) DL_law_b0 13 rfl
theorem dL_law_23 : decode cL_law 23 = .ok (.isub, 1) := of_row (r := (23, .isub, 1)) DL_law_b0 14 rfl
theorem dL_law_24 : decode cL_law 24 = .ok (.if_icmp .gt 858, 3) := of_row (r := (24, .if_icmp .gt 858, 3)) DL_law_b0 15 rfl
theorem dL_law_27 : decode cL_law 27 = .ok (.aload_n 0, 1) := of_row (r := (27, .aload_n 0, 1)) DL_law_b0 16 rfl
theorem dL_law_28 : decode cL_law 28 = .ok (.iload_n 3, 1) := of_row (r := (28, .iload_n 3, 1)) DL_law_b0 17 rfl
theorem dL_law_29 : decode cL_law 29 = .ok (.iaload, 1) := of_row (r := (29, .iaload, 1)) DL_law_b0 18 rfl
theorem dL_law_30 : decode cL_law 30 = .ok (.bipush 31, 2) := of_row (r := (30, .bipush 31, 2)) DL_law_b0 19 rfl
theorem dL_law_32 : decode cL_law 32 = .ok (.iand, 1) := of_row (r := (32, .iand, 1)) DL_law_b0 20 rfl
theorem dL_law_33 : decode cL_law 33 = .ok (.tableswitch 843 0 23 #[111, 174, 197, 210, 233, 266, 289, 332, 375, 428, 441, 474, 497, 530, 563, 596, 629, 662, 695, 728, 751, 774, 797, 820], 111) := of_row (r := (33, .tableswitch 843 0 23 #[111, 174, 197, 210, 233, 266, 289, 332, 375, 428, 441, 474, 497, 530, 563, 596, 629, 662, 695, 728, 751, 774, 797, 820], 111)) DL_law_b0 21 rfl
theorem dL_law_144 : decode cL_law 144 = .ok (.aload_n 1, 1) := of_row (r := (144, .aload_n 1, 1)) DL_law_b0 22 rfl
theorem dL_law_145 : decode cL_law 145 = .ok (.aload_n 0, 1) := of_row (r := (145, .aload_n 0, 1)) DL_law_b0 23 rfl
theorem dL_law_146 : decode cL_law 146 = .ok (.iload_n 3, 1) := of_row (r := (146, .iload_n 3, 1)) DL_law_b0 24 rfl
theorem dL_law_147 : decode cL_law 147 = .ok (.iconst 1, 1) := of_row (r := (147, .iconst 1, 1)) DL_law_b0 25 rfl
theorem dL_law_148 : decode cL_law 148 = .ok (.iadd, 1) := of_row (r := (148, .iadd, 1)) DL_law_b0 26 rfl
theorem dL_law_149 : decode cL_law 149 = .ok (.iaload, 1) := of_row (r := (149, .iaload, 1)) DL_law_b0 27 rfl
theorem dL_law_150 : decode cL_law 150 = .ok (.aload_n 0, 1) := of_row (r := (150, .aload_n 0, 1)) DL_law_b0 28 rfl
theorem dL_law_151 : decode cL_law 151 = .ok (.iload_n 3, 1) := of_row (r := (151, .iload_n 3, 1)) DL_law_b0 29 rfl
theorem dL_law_152 : decode cL_law 152 = .ok (.iconst 2, 1) := of_row (r := (152, .iconst 2, 1)) DL_law_b0 30 rfl
theorem dL_law_153 : decode cL_law 153 = .ok (.iadd, 1) := of_row (r := (153, .iadd, 1)) DL_law_b0 31 rfl
theorem dL_law_154 : decode cL_law 154 = .ok (.iaload, 1) := of_row (r := (154, .iaload, 1)) DL_law_b0 32 rfl
theorem dL_law_155 : decode cL_law 155 = .ok (.aload_n 0, 1) := of_row (r := (155, .aload_n 0, 1)) DL_law_b0 33 rfl
theorem dL_law_156 : decode cL_law 156 = .ok (.iload_n 3, 1) := of_row (r := (156, .iload_n 3, 1)) DL_law_b0 34 rfl
theorem dL_law_157 : decode cL_law 157 = .ok (.iconst 3, 1) := of_row (r := (157, .iconst 3, 1)) DL_law_b0 35 rfl
theorem dL_law_158 : decode cL_law 158 = .ok (.iadd, 1) := of_row (r := (158, .iadd, 1)) DL_law_b0 36 rfl
theorem dL_law_159 : decode cL_law 159 = .ok (.iaload, 1) := of_row (r := (159, .iaload, 1)) DL_law_b0 37 rfl
theorem dL_law_160 : decode cL_law 160 = .ok (.aload_n 0, 1) := of_row (r := (160, .aload_n 0, 1)) DL_law_b0 38 rfl
theorem dL_law_161 : decode cL_law 161 = .ok (.iload_n 3, 1) := of_row (r := (161, .iload_n 3, 1)) DL_law_b0 39 rfl
theorem dL_law_162 : decode cL_law 162 = .ok (.iconst 4, 1) := of_row (r := (162, .iconst 4, 1)) DL_law_b0 40 rfl
theorem dL_law_163 : decode cL_law 163 = .ok (.iadd, 1) := of_row (r := (163, .iadd, 1)) DL_law_b0 41 rfl
theorem dL_law_164 : decode cL_law 164 = .ok (.iaload, 1) := of_row (r := (164, .iaload, 1)) DL_law_b0 42 rfl
theorem dL_law_165 : decode cL_law 165 = .ok (.aload_n 0, 1) := of_row (r := (165, .aload_n 0, 1)) DL_law_b0 43 rfl
theorem dL_law_166 : decode cL_law 166 = .ok (.iload_n 3, 1) := of_row (r := (166, .iload_n 3, 1)) DL_law_b0 44 rfl
theorem dL_law_167 : decode cL_law 167 = .ok (.iconst 5, 1) := of_row (r := (167, .iconst 5, 1)) DL_law_b0 45 rfl
theorem dL_law_168 : decode cL_law 168 = .ok (.iadd, 1) := of_row (r := (168, .iadd, 1)) DL_law_b0 46 rfl
theorem dL_law_169 : decode cL_law 169 = .ok (.iaload, 1) := of_row (r := (169, .iaload, 1)) DL_law_b0 47 rfl
theorem dL_law_170 : decode cL_law 170 = .ok (.invokevirtual 13, 3) := of_row (r := (170, .invokevirtual 13, 3)) DL_law_b0 48 rfl
theorem dL_law_173 : decode cL_law 173 = .ok (.pop, 1) := of_row (r := (173, .pop, 1)) DL_law_b0 49 rfl
theorem dL_law_174 : decode cL_law 174 = .ok (.aload_n 2, 1) := of_row (r := (174, .aload_n 2, 1)) DL_law_b0 50 rfl
theorem dL_law_175 : decode cL_law 175 = .ok (.aload_n 0, 1) := of_row (r := (175, .aload_n 0, 1)) DL_law_b0 51 rfl
theorem dL_law_176 : decode cL_law 176 = .ok (.iload_n 3, 1) := of_row (r := (176, .iload_n 3, 1)) DL_law_b0 52 rfl
theorem dL_law_177 : decode cL_law 177 = .ok (.iconst 1, 1) := of_row (r := (177, .iconst 1, 1)) DL_law_b0 53 rfl
theorem dL_law_178 : decode cL_law 178 = .ok (.iadd, 1) := of_row (r := (178, .iadd, 1)) DL_law_b0 54 rfl
theorem dL_law_179 : decode cL_law 179 = .ok (.iaload, 1) := of_row (r := (179, .iaload, 1)) DL_law_b0 55 rfl
theorem dL_law_180 : decode cL_law 180 = .ok (.aload_n 0, 1) := of_row (r := (180, .aload_n 0, 1)) DL_law_b0 56 rfl
theorem dL_law_181 : decode cL_law 181 = .ok (.iload_n 3, 1) := of_row (r := (181, .iload_n 3, 1)) DL_law_b0 57 rfl
theorem dL_law_182 : decode cL_law 182 = .ok (.iconst 2, 1) := of_row (r := (182, .iconst 2, 1)) DL_law_b0 58 rfl
theorem dL_law_183 : decode cL_law 183 = .ok (.iadd, 1) := of_row (r := (183, .iadd, 1)) DL_law_b0 59 rfl
set_option maxRecDepth 20000 in
theorem DL_law_b1 : ([(184, .iaload, 1), (185, .aload_n 0, 1), (186, .iload_n 3, 1), (187, .iconst 3, 1), (188, .iadd, 1), (189, .iaload, 1), (190, .aload_n 0, 1), (191, .iload_n 3, 1), (192, .iconst 4, 1), (193, .iadd, 1), (194, .iaload, 1), (195, .aload_n 0, 1), (196, .iload_n 3, 1), (197, .iconst 5, 1), (198, .iadd, 1), (199, .iaload, 1), (200, .invokevirtual 17, 3), (203, .pop, 1), (204, .goto 672, 3), (207, .aload_n 1, 1), (208, .aload_n 0, 1), (209, .iload_n 3, 1), (210, .iconst 1, 1), (211, .iadd, 1), (212, .iaload, 1), (213, .invokevirtual 18, 3), (216, .pop, 1), (217, .aload_n 2, 1), (218, .aload_n 0, 1), (219, .iload_n 3, 1), (220, .iconst 1, 1), (221, .iadd, 1), (222, .iaload, 1), (223, .invokevirtual 22, 3), (226, .pop, 1), (227, .goto 649, 3), (230, .aload_n 1, 1), (231, .invokevirtual 23, 3), (234, .pop, 1), (235, .aload_n 2, 1), (236, .invokevirtual 27, 3), (239, .pop, 1), (240, .goto 636, 3), (243, .aload_n 1, 1), (244, .aload_n 0, 1), (245, .iload_n 3, 1), (246, .iconst 1, 1), (247, .iadd, 1), (248, .iaload, 1), (249, .invokevirtual 28, 3), (252, .pop, 1), (253, .aload_n 2, 1), (254, .aload_n 0, 1), (255, .iload_n 3, 1), (256, .iconst 1, 1), (257, .iadd, 1), (258, .iaload, 1), (259, .invokevirtual 31, 3), (262, .pop, 1), (263, .goto 613, 3)] : List (Nat × Instr × Nat)).all (fun r => decide (decode cL_law r.1 = .ok r.2)) = true := by decide +kernel
theorem dL_law_184 : decode cL_law 184 = .ok (.iaload, 1) := of_row (r := (184, .iaload, 1)) DL_law_b1 0 rfl
theorem dL_law_185 : decode cL_law 185 = .ok (.aload_n 0, 1) := of_row (r := (185, .aload_n 0, 1)) DL_law_b1 1 rfl
theorem dL_law_186 : decode cL_law 186 = .ok (.iload_n 3, 1) := of_row (r := (186, .iload_n 3, 1)) DL_law_b1 2 rfl
theorem dL_law_187 : decode cL_law 187 = .ok (.iconst 3, 1) := of_row (r := (187, .iconst 3, 1)) DL_law_b1 3 rfl
theorem dL_law_188 : decode cL_law 188 = .ok (.iadd, 1) := of_row (r := (188, .iadd, 1)) DL_law_b1 4 rfl
theorem dL_law_189 : decode cL_law 189 = .ok (.iaload, 1) := of_row (r := (189, .iaload, 1)) DL_law_b1 5 rfl
theorem dL_law_190 : decode cL_law 190 = .ok (.aload_n 0, 1) := of_row (r := (190, .aload_n 0, 1)) DL_law_b1 6 rfl
theorem dL_law_191 : decode cL_law 191 = .ok (.iload_n 3, 1) := of_row (r := (191, .iload_n 3, 1)) DL_law_b1 7 rfl
theorem dL_law_192 : decode cL_law 192 = .ok (.iconst 4, 1) := of_row (r := (192, .iconst 4, 1)) DL_law_b1 8 rfl
theorem dL_law_193 : decode cL_law 193 = .ok (.iadd, 1) := of_row (r := (193, .iadd, 1)) DL_law_b1 9 rfl
theorem dL_law_194 : decode cL_law 194 = .ok (.iaload, 1) := of_row (r := (194, .iaload, 1)) DL_law_b1 10 rfl
theorem dL_law_195 : decode cL_law 195 = .ok (.aload_n 0, 1) := of_row (r := (195, .aload_n 0, 1)) DL_law_b1 11 rfl
theorem dL_law_196 : decode cL_law 196 = .ok (.iload_n 3, 1) := of_row (r := (196, .iload_n 3, 1)) DL_law_b1 12 rfl
theorem dL_law_197 : decode cL_law 197 = .ok (.iconst 5, 1) := of_row (r := (197, .iconst 5, 1)) DL_law_b1 13 rfl
theorem dL_law_198 : decode cL_law 198 = .ok (.iadd, 1) := of_row (r := (198, .iadd, 1)) DL_law_b1 14 rfl
theorem dL_law_199 : decode cL_law 199 = .ok (.iaload, 1) := of_row (r := (199, .iaload, 1)) DL_law_b1 15 rfl
theorem dL_law_200 : decode cL_law 200 = .ok (.invokevirtual 17, 3) := of_row (r := (200, .invokevirtual 17, 3)) DL_law_b1 16 rfl
theorem dL_law_203 : decode cL_law 203 = .ok (.pop, 1) := of_row (r := (203, .pop, 1)) DL_law_b1 17 rfl
theorem dL_law_204 : decode cL_law 204 = .ok (.goto 672, 3) := of_row (r := (204, .goto 672, 3)) DL_law_b1 18 rfl
theorem dL_law_207 : decode cL_law 207 = .ok (.aload_n 1, 1) := of_row (r := (207, .aload_n 1, 1)) DL_law_b1 19 rfl
theorem dL_law_208 : decode cL_law 208 = .ok (.aload_n 0, 1) := of_row (r := (208, .aload_n 0, 1)) DL_law_b1 20 rfl
theorem dL_law_209 : decode cL_law 209 = .ok (.iload_n 3, 1) := of_row (r := (209, .iload_n 3, 1)) DL_law_b1 21 rfl
theorem dL_law_210 : decode cL_law 210 = .ok (.iconst 1, 1) := of_row (r := (210, .iconst 1, 1)) DL_law_b1 22 rfl
theorem dL_law_211 : decode cL_law 211 = .ok (.iadd, 1) := of_row (r := (211, .iadd, 1)) DL_law_b1 23 rfl
theorem dL_law_212 : decode cL_law 212 = .ok (.iaload, 1) := of_row (r := (212, .iaload, 1)) DL_law_b1 24 rfl
theorem dL_law_213 : decode cL_law 213 = .ok (.invokevirtual 18, 3) := of_row (r := (213, .invokevirtual 18, 3)) DL_law_b1 25 rfl
theorem dL_law_216 : decode cL_law 216 = .ok (.pop, 1) := of_row (r := (216, .pop, 1)) DL_law_b1 26 rfl
theorem dL_law_217 : decode cL_law 217 = .ok (.aload_n 2, 1) := of_row (r := (217, .aload_n 2, 1)) DL_law_b1 27 rfl
theorem dL_law_218 : decode cL_law 218 = .ok (.aload_n 0, 1) := of_row (r := (218, .aload_n 0, 1)) DL_law_b1 28 rfl
theorem dL_law_219 : decode cL_law 219 = .ok (.iload_n 3, 1) := of_row (r := (219, .iload_n 3, 1)) DL_law_b1 29 rfl
theorem dL_law_220 : decode cL_law 220 = .ok (.iconst 1, 1) := of_row (r := (220, .iconst 1, 1)) DL_law_b1 30 rfl
theorem dL_law_221 : decode cL_law 221 = .ok (.iadd, 1) := of_row (r := (221, .iadd, 1)) DL_law_b1 31 rfl
theorem dL_law_222 : decode cL_law 222 = .ok (.iaload, 1) := of_row (r := (222, .iaload, 1)) DL_law_b1 32 rfl
theorem dL_law_223 : decode cL_law 223 = .ok (.invokevirtual 22, 3) := of_row (r := (223, .invokevirtual 22, 3)) DL_law_b1 33 rfl
theorem dL_law_226 : decode cL_law 226 = .ok (.pop, 1) := of_row (r := (226, .pop, 1)) DL_law_b1 34 rfl
theorem dL_law_227 : decode cL_law 227 = .ok (.goto 649, 3) := of_row (r := (227, .goto 649, 3)) DL_law_b1 35 rfl
theorem dL_law_230 : decode cL_law 230 = .ok (.aload_n 1, 1) := of_row (r := (230, .aload_n 1, 1)) DL_law_b1 36 rfl
theorem dL_law_231 : decode cL_law 231 = .ok (.invokevirtual 23, 3) := of_row (r := (231, .invokevirtual 23, 3)) DL_law_b1 37 rfl
theorem dL_law_234 : decode cL_law 234 = .ok (.pop, 1) := of_row (r := (234, .pop, 1)) DL_law_b1 38 rfl
theorem dL_law_235 : decode cL_law 235 = .ok (.aload_n 2, 1) := of_row (r := (235, .aload_n 2, 1)) DL_law_b1 39 rfl
theorem dL_law_236 : decode cL_law 236 = .ok (.invokevirtual 27, 3) := of_row (r := (236, .invokevirtual 27, 3)) DL_law_b1 40 rfl
theorem dL_law_239 : decode cL_law 239 = .ok (.pop, 1) := of_row (r := (239, .pop, 1)) DL_law_b1 41 rfl
theorem dL_law_240 : decode cL_law 240 = .ok (.goto 636, 3) := of_row (r := (240, .goto 636, 3)) DL_law_b1 42 rfl
theorem dL_law_243 : decode cL_law 243 = .ok (.aload_n 1, 1) := of_row (r := (243, .aload_n 1, 1)) DL_law_b1 43 rfl
theorem dL_law_244 : decode cL_law 244 = .ok (.aload_n 0, 1) := of_row (r := (244, .aload_n 0, 1)) DL_law_b1 44 rfl
theorem dL_law_245 : decode cL_law 245 = .ok (.iload_n 3, 1) := of_row (r := (245, .iload_n 3, 1)) DL_law_b1 45 rfl
theorem dL_law_246 : decode cL_law 246 = .ok (.iconst 1, 1) := of_row (r := (246, .iconst 1, 1)) DL_law_b1 46 rfl
theorem dL_law_247 : decode cL_law 247 = .ok (.iadd, 1) := of_row (r := (247, .iadd, 1)) DL_law_b1 47 rfl
theorem dL_law_248 : decode cL_law 248 = .ok (.iaload, 1) := of_row (r := (248, .iaload, 1)) DL_law_b1 48 rfl
theorem dL_law_249 : decode cL_law 249 = .ok (.invokevirtual 28, 3) := of_row (r := (249, .invokevirtual 28, 3)) DL_law_b1 49 rfl
theorem dL_law_252 : decode cL_law 252 = .ok (.pop, 1) := of_row (r := (252, .pop, 1)) DL_law_b1 50 rfl
theorem dL_law_253 : decode cL_law 253 = .ok (.aload_n 2, 1) := of_row (r := (253, .aload_n 2, 1)) DL_law_b1 51 rfl
theorem dL_law_254 : decode cL_law 254 = .ok (.aload_n 0, 1) := of_row (r := (254, .aload_n 0, 1)) DL_law_b1 52 rfl
theorem dL_law_255 : decode cL_law 255 = .ok (.iload_n 3, 1) := of_row (r := (255, .iload_n 3, 1)) DL_law_b1 53 rfl
theorem dL_law_256 : decode cL_law 256 = .ok (.iconst 1, 1) := of_row (r := (256, .iconst 1, 1)) DL_law_b1 54 rfl
theorem dL_law_257 : decode cL_law 257 = .ok (.iadd, 1) := of_row (r := (257, .iadd, 1)) DL_law_b1 55 rfl
theorem dL_law_258 : decode cL_law 258 = .ok (.iaload, 1) := of_row (r := (258, .iaload, 1)) DL_law_b1 56 rfl
theorem dL_law_259 : decode cL_law 259 = .ok (.invokevirtual 31, 3) := of_row (r := (259, .invokevirtual 31, 3)) DL_law_b1 57 rfl
theorem dL_law_262 : decode cL_law 262 = .ok (.pop, 1) := of_row (r := (262, .pop, 1)) DL_law_b1 58 rfl
theorem dL_law_263 : decode cL_law 263 = .ok (.goto 613, 3) := of_row (r := (263, .goto 613, 3)) DL_law_b1 59 rfl
set_option maxRecDepth 20000 in
theorem DL_law_b2 : ([(266, .aload_n 1, 1), (267, .aload_n 0, 1), (268, .iload_n 3, 1), (269, .iconst 1, 1), (270, .iadd, 1), (271, .iaload, 1), (272, .aload_n 0, 1), (273, .iload_n 3, 1), (274, .iconst 2, 1), (275, .iadd, 1), (276, .iaload, 1), (277, .invokevirtual 32, 3), (280, .pop, 1), (281, .aload_n 2, 1), (282, .aload_n 0, 1), (283, .iload_n 3, 1), (284, .iconst 1, 1), (285, .iadd, 1), (286, .iaload, 1), (287, .aload_n 0, 1), (288, .iload_n 3, 1), (289, .iconst 2, 1), (290, .iadd, 1), (291, .iaload, 1), (292, .invokevirtual 36, 3), (295, .pop, 1), (296, .goto 580, 3), (299, .aload_n 1, 1), (300, .aload_n 0, 1), (301, .iload_n 3, 1), (302, .iconst 1, 1), (303, .iadd, 1), (304, .iaload, 1), (305, .invokevirtual 37, 3), (308, .pop, 1), (309, .aload_n 2, 1), (310, .aload_n 0, 1), (311, .iload_n 3, 1), (312, .iconst 1, 1), (313, .iadd, 1), (314, .iaload, 1), (315, .invokevirtual 40, 3), (318, .pop, 1), (319, .goto 557, 3), (322, .aload_n 1, 1), (323, .aload_n 0, 1), (324, .iload_n 3, 1), (325, .iconst 1, 1), (326, .iadd, 1), (327, .iaload, 1), (328, .aload_n 0, 1), (329, .iload_n 3, 1), (330, .iconst 2, 1), (331, .iadd, 1), (332, .iaload, 1), (333, .aload_n 0, 1), (334, .iload_n 3, 1), (335, .iconst 3, 1), (336, .iadd, 1), (337, .iaload, 1)] : List (Nat × Instr × Nat)).all (fun r => decide (decode cL_law r.1 = .ok r.2)) = true := by decide +kernel
theorem dL_law_266 : decode cL_law 266 = .ok (.aload_n 1, 1) := of_row (r := (266, .aload_n 1, 1)) DL_law_b2 0 rfl
theorem dL_law_267 : decode cL_law 267 = .ok (.aload_n 0, 1) := of_row (r := (267, .aload_n 0, 1)) DL_law_b2 1 rfl
theorem dL_law_268 : decode cL_law 268 = .ok (.iload_n 3, 1) := of_row (r := (268, .iload_n 3, 1)) DL_law_b2 2 rfl
theorem dL_law_269 : decode cL_law 269 = .ok (.iconst 1, 1) := of_row (r := (269, .iconst 1, 1)) DL_law_b2 3 rfl
theorem dL_law_270 : decode cL_law 270 = .ok (.iadd, 1) := of_row (r := (270, .iadd, 1)) DL_law_b2 4 rfl
theorem dL_law_271 : decode cL_law 271 = .ok (.iaload, 1) := of_row (r := (271, .iaload, 1)) DL_law_b2 5 rfl
theorem dL_law_272 : decode cL_law 272 = .ok (.aload_n 0, 1) := of_row (r := (272, .aload_n 0, 1)) DL_law_b2 6 rfl
theorem dL_law_273 : decode cL_law 273 = .ok (.iload_n 3, 1) := of_row (r := (273, .iload_n 3, 1)) DL_law_b2 7 rfl
theorem dL_law_274 : decode cL_law 274 = .ok (.iconst 2, 1) := of_row (r := (274, .iconst 2, 1)) DL_law_b2 8 rfl
theorem dL_law_275 : decode cL_law 275 = .ok (.iadd, 1) := of_row (r := (275, .iadd, 1)) DL_law_b2 9 rfl
theorem dL_law_276 : decode cL_law 276 = .ok (.iaload, 1) := of_row (r := (276, .iaload, 1)) DL_law_b2 10 rfl
theorem dL_law_277 : decode cL_law 277 = .ok (.invokevirtual 32, 3) := of_row (r := (277, .invokevirtual 32, 3)) DL_law_b2 11 rfl
theorem dL_law_280 : decode cL_law 280 = .ok (.pop, 1) := of_row (r := (280, .pop, 1)) DL_law_b2 12 rfl
theorem dL_law_281 : decode cL_law 281 = .ok (.aload_n 2, 1) := of_row (r := (281, .aload_n 2, 1)) DL_law_b2 13 rfl
theorem dL_law_282 : decode cL_law 282 = .ok (.aload_n 0, 1) := of_row (r := (282, .aload_n 0, 1)) DL_law_b2 14 rfl
theorem dL_law_283 : decode cL_law 283 = .ok (.iload_n 3, 1) := of_row (r := (283, .iload_n 3, 1)) DL_law_b2 15 rfl
theorem dL_law_284 : decode cL_law 284 = .ok (.iconst 1, 1) := of_row (r := (284, .iconst 1, 1)) DL_law_b2 16 rfl
theorem dL_law_285 : decode cL_law 285 = .ok (.iadd, 1) := of_row (r := (285, .iadd, 1)) DL_law_b2 17 rfl
theorem dL_law_286 : decode cL_law 286 = .ok (.iaload, 1) := of_row (r := (286, .iaload, 1)) DL_law_b2 18 rfl
theorem dL_law_287 : decode cL_law 287 = .ok (.aload_n 0, 1) := of_row (r := (287, .aload_n 0, 1)) DL_law_b2 19 rfl
theorem dL_law_288 : decode cL_law 288 = .ok (.iload_n 3, 1) := of_row (r := (288, .iload_n 3, 1)) DL_law_b2 20 rfl
theorem dL_law_289 : decode cL_law 289 = .ok (.iconst 2, 1) := of_row (r := (289, .iconst 2, 1)) DL_law_b2 21 rfl
theorem dL_law_290 : decode cL_law 290 = .ok (.iadd, 1) := of_row (r := (290, .iadd, 1)) DL_law_b2 22 rfl
theorem dL_law_291 : decode cL_law 291 = .ok (.iaload, 1) := of_row (r := (291, .iaload, 1)) DL_law_b2 23 rfl
theorem dL_law_292 : decode cL_law 292 = .ok (.invokevirtual 36, 3) := of_row (r := (292, .invokevirtual 36, 3)) DL_law_b2 24 rfl
theorem dL_law_295 : decode cL_law 295 = .ok (.pop, 1) := of_row (r := (295, .pop, 1)) DL_law_b2 25 rfl
theorem dL_law_296 : decode cL_law 296 = .ok (.goto 580, 3) := of_row (r := (296, .goto 580, 3)) DL_law_b2 26 rfl
theorem dL_law_299 : decode cL_law 299 = .ok (.aload_n 1, 1) := of_row (r := (299, .aload_n 1, 1)) DL_law_b2 27 rfl
theorem dL_law_300 : decode cL_law 300 = .ok (.aload_n 0, 1) := of_row (r := (300, .aload_n 0, 1)) DL_law_b2 28 rfl
theorem dL_law_301 : decode cL_law 301 = .ok (.iload_n 3, 1) := of_row (r := (301, .iload_n 3, 1)) DL_law_b2 29 rfl
theorem dL_law_302 : decode cL_law 302 = .ok (.iconst 1, 1) := of_row (r := (302, .iconst 1, 1)) DL_law_b2 30 rfl
theorem dL_law_303 : decode cL_law 303 = .ok (.iadd, 1) := of_row (r := (303, .iadd, 1)) DL_law_b2 31 rfl
theorem dL_law_304 : decode cL_law 304 = .ok (.iaload, 1) := of_row (r := (304, .iaload, 1)) DL_law_b2 32 rfl
theorem dL_law_305 : decode cL_law 305 = .ok (.invokevirtual 37, 3) := of_row (r := (305, .invokevirtual 37, 3)) DL_law_b2 33 rfl
theorem dL_law_308 : decode cL_law 308 = .ok (.pop, 1) := of_row (r := (308, .pop, 1)) DL_law_b2 34 rfl
theorem dL_law_309 : decode cL_law 309 = .ok (.aload_n 2, 1) := of_row (r := (309, .aload_n 2, 1)) DL_law_b2 35 rfl
theorem dL_law_310 : decode cL_law 310 = .ok (.aload_n 0, 1) := of_row (r := (310, .aload_n 0, 1)) DL_law_b2 36 rfl
theorem dL_law_311 : decode cL_law 311 = .ok (.iload_n 3, 1) := of_row (r := (311, .iload_n 3, 1)) DL_law_b2 37 rfl
theorem dL_law_312 : decode cL_law 312 = .ok (.iconst 1, 1) := of_row (r := (312, .iconst 1, 1)) DL_law_b2 38 rfl
theorem dL_law_313 : decode cL_law 313 = .ok (.iadd, 1) := of_row (r := (313, .iadd, 1)) DL_law_b2 39 rfl
theorem dL_law_314 : decode cL_law 314 = .ok (.iaload, 1) := of_row (r := (314, .iaload, 1)) DL_law_b2 40 rfl
theorem dL_law_315 : decode cL_law 315 = .ok (.invokevirtual 40, 3) := of_row (r := (315, .invokevirtual 40, 3)) DL_law_b2 41 rfl
theorem dL_law_318 : decode cL_law 318 = .ok (.pop, 1) := of_row (r := (318, .pop, 1)) DL_law_b2 42 rfl
theorem dL_law_319 : decode cL_law 319 = .ok (.goto 557, 3) := of_row (r := (319, .goto 557, 3)) DL_law_b2 43 rfl
theorem dL_law_322 : decode cL_law 322 = .ok (.aload_n 1, 1) := of_row (r := (322, .aload_n 1, 1)) DL_law_b2 44 rfl
theorem dL_law_323 : decode cL_law 323 = .ok (.aload_n 0, 1) := of_row (r := (323, .aload_n 0, 1)) DL_law_b2 45 rfl
theorem dL_law_324 : decode cL_law 324 = .ok (.iload_n 3, 1) := of_row (r := (324, .iload_n 3, 1)) DL_law_b2 46 rfl
theorem dL_law_325 : decode cL_law 325 = .ok (.iconst 1, 1) := of_row (r := (325, .iconst 1, 1)) DL_law_b2 47 rfl
theorem dL_law_326 : decode cL_law 326 = .ok (.iadd, 1) := of_row (r := (326, .iadd, 1)) DL_law_b2 48 rfl
theorem dL_law_327 : decode cL_law 327 = .ok (.iaload, 1) := of_row (r := (327, .iaload, 1)) DL_law_b2 49 rfl
theorem dL_law_328 : decode cL_law 328 = .ok (.aload_n 0, 1) := of_row (r := (328, .aload_n 0, 1)) DL_law_b2 50 rfl
theorem dL_law_329 : decode cL_law 329 = .ok (.iload_n 3, 1) := of_row (r := (329, .iload_n 3, 1)) DL_law_b2 51 rfl
theorem dL_law_330 : decode cL_law 330 = .ok (.iconst 2, 1) := of_row (r := (330, .iconst 2, 1)) DL_law_b2 52 rfl
theorem dL_law_331 : decode cL_law 331 = .ok (.iadd, 1) := of_row (r := (331, .iadd, 1)) DL_law_b2 53 rfl
theorem dL_law_332 : decode cL_law 332 = .ok (.iaload, 1) := of_row (r := (332, .iaload, 1)) DL_law_b2 54 rfl
theorem dL_law_333 : decode cL_law 333 = .ok (.aload_n 0, 1) := of_row (r := (333, .aload_n 0, 1)) DL_law_b2 55 rfl
theorem dL_law_334 : decode cL_law 334 = .ok (.iload_n 3, 1) := of_row (r := (334, .iload_n 3, 1)) DL_law_b2 56 rfl
theorem dL_law_335 : decode cL_law 335 = .ok (.iconst 3, 1) := of_row (r := (335, .iconst 3, 1)) DL_law_b2 57 rfl
theorem dL_law_336 : decode cL_law 336 = .ok (.iadd, 1) := of_row (r := (336, .iadd, 1)) DL_law_b2 58 rfl
theorem dL_law_337 : decode cL_law 337 = .ok (.iaload, 1) := of_row (r := (337, .iaload, 1)) DL_law_b2 59 rfl
set_option maxRecDepth 20000 in
theorem DL_law_b3 : ([(338, .invokevirtual 41, 3), (341, .pop, 1), (342, .aload_n 2, 1), (343, .aload_n 0, 1), (344, .iload_n 3, 1), (345, .iconst 1, 1), (346, .iadd, 1), (347, .iaload, 1), (348, .aload_n 0, 1), (349, .iload_n 3, 1), (350, .iconst 2, 1), (351, .iadd, 1), (352, .iaload, 1), (353, .aload_n 0, 1), (354, .iload_n 3, 1), (355, .iconst 3, 1), (356, .iadd, 1), (357, .iaload, 1), (358, .invokevirtual 45, 3), (361, .pop, 1), (362, .goto 514, 3), (365, .aload_n 1, 1), (366, .aload_n 0, 1), (367, .iload_n 3, 1), (368, .iconst 1, 1), (369, .iadd, 1), (370, .iaload, 1), (371, .aload_n 0, 1), (372, .iload_n 3, 1), (373, .iconst 2, 1), (374, .iadd, 1), (375, .iaload, 1), (376, .aload_n 0, 1), (377, .iload_n 3, 1), (378, .iconst 3, 1), (379, .iadd, 1), (380, .iaload, 1), (381, .invokevirtual 46, 3), (384, .pop, 1), (385, .aload_n 2, 1), (386, .aload_n 0, 1), (387, .iload_n 3, 1), (388, .iconst 1, 1), (389, .iadd, 1), (390, .iaload, 1), (391, .aload_n 0, 1), (392, .iload_n 3, 1), (393, .iconst 2, 1), (394, .iadd, 1), (395, .iaload, 1), (396, .aload_n 0, 1), (397, .iload_n 3, 1), (398, .iconst 3, 1), (399, .iadd, 1), (400, .iaload, 1), (401, .invokevirtual 49, 3), (404, .pop, 1), (405, .goto 471, 3), (408, .aload_n 1, 1), (409, .aload_n 0, 1)] : List (Nat × Instr × Nat)).all (fun r => decide (decode cL_law r.1 = .ok r.2)) = true := by decide +kernel
theorem dL_law_338 : decode cL_law 338 = .ok (.invokevirtual 41, 3) := of_row (r := (338, .invokevirtual 41, 3)) DL_law_b3 0 rfl
theorem dL_law_341 : decode cL_law 341 = .ok (.pop, 1) := of_row (r := (341, .pop, 1)) DL_law_b3 1 rfl
theorem dL_law_342 : decode cL_law 342 = .ok (.aload_n 2, 1) := of_row (r := (342, .aload_n 2, 1)) DL_law_b3 2 rfl
theorem dL_law_343 : decode cL_law 343 = .ok (.aload_n 0, 1) := of_row (r := (343, .aload_n 0, 1)) DL_law_b3 3 rfl
theorem dL_law_344 : decode cL_law 344 = .ok (.iload_n 3, 1) := of_row (r := (344, .iload_n 3, 1)) DL_law_b3 4 rfl
theorem dL_law_345 : decode cL_law 345 = .ok (.iconst 1, 1) := of_row (r := (345, .iconst 1, 1)) DL_law_b3 5 rfl
theorem dL_law_346 : decode cL_law 346 = .ok (.iadd, 1) := of_row (r := (346, .iadd, 1)) DL_law_b3 6 rfl
theorem dL_law_347 : decode cL_law 347 = .ok (.iaload, 1) := of_row (r := (347, .iaload, 1)) DL_law_b3 7 rfl
theorem dL_law_348 : decode cL_law 348 = .ok (.aload_n 0, 1) := of_row (r := (348, .aload_n 0, 1)) DL_law_b3 8 rfl
theorem dL_law_349 : decode cL_law 349 = .ok (.iload_n 3, 1) := of_row (r := (349, .iload_n 3, 1)) DL_law_b3 9 rfl
theorem dL_law_350 : decode cL_law 350 = .ok (.iconst 2, 1) := of_row (r := (350, .iconst 2, 1)) DL_law_b3 10 rfl
theorem dL_law_351 : decode cL_law 351 = .ok (.iadd, 1) := of_row (r := (351, .iadd, 1)) DL_law_b3 11 rfl
theorem dL_law_352 : decode cL_law 352 = .ok (.iaload, 1) := of_row (r := (352, .iaload, 1)) DL_law_b3 12 rfl
theorem dL_law_353 : decode cL_law 353 = .ok (.aload_n 0, 1) := of_row (r := (353, .aload_n 0, 1)) DL_law_b3 13 rfl
theorem dL_law_354 : decode cL_law 354 = .ok (.iload_n 3, 1) := of_row (r := (354, .iload_n 3, 1)) DL_law_b3 14 rfl
theorem dL_law_355 : decode cL_law 355 = .ok (.iconst 3, 1) := of_row (r := (355, .iconst 3, 1)) DL_law_b3 15 rfl
theorem dL_law_356 : decode cL_law 356 = .ok (.iadd, 1) := of_row (r := (356, .iadd, 1)) DL_law_b3 16 rfl
theorem dL_law_357 : decode cL_law 357 = .ok (.iaload, 1) := of_row (r := (357, .iaload, 1)) DL_law_b3 17 rfl
theorem dL_law_358 : decode cL_law 358 = .ok (.invokevirtual 45, 3) := of_row (r := (358, .invokevirtual 45, 3)) DL_law_b3 18 rfl
theorem dL_law_361 : decode cL_law 361 = .ok (.pop, 1) := of_row (r := (361, .pop, 1)) DL_law_b3 19 rfl
theorem dL_law_362 : decode cL_law 362 = .ok (.goto 514, 3) := of_row (r := (362, .goto 514, 3)) DL_law_b3 20 rfl
theorem dL_law_365 : decode cL_law 365 = .ok (.aload_n 1, 1) := of_row (r := (365, .aload_n 1, 1)) DL_law_b3 21 rfl
theorem dL_law_366 : decode cL_law 366 = .ok (.aload_n 0, 1) := of_row (r := (366, .aload_n 0, 1)) DL_law_b3 22 rfl
theorem dL_law_367 : decode cL_law 367 = .ok (.iload_n 3, 1) := of_row (r := (367, .iload_n 3, 1)) DL_law_b3 23 rfl
theorem dL_law_368 : decode cL_law 368 = .ok (.iconst 1, 1) := of_row (r := (368, .iconst 1, 1)) DL_law_b3 24 rfl
theorem dL_law_369 : decode cL_law 369 = .ok (.iadd, 1) := of_row (r := (369, .iadd, 1)) DL_law_b3 25 rfl
theorem dL_law_370 : decode cL_law 370 = .ok (.iaload, 1) := of_row (r := (370, .iaload, 1)) DL_law_b3 26 rfl
theorem dL_law_371 : decode cL_law 371 = .ok (.aload_n 0, 1) := of_row (r := (371, .aload_n 0, 1)) DL_law_b3 27 rfl
theorem dL_law_372 : decode cL_law 372 = .ok (.iload_n 3, 1) := of_row (r := (372, .iload_n 3, 1)) DL_law_b3 28 rfl
theorem dL_law_373 : decode cL_law 373 = .ok (.iconst 2, 1) := of_row (r := (373, .iconst 2, 1)) DL_law_b3 29 rfl
theorem dL_law_374 : decode cL_law 374 = .ok (.iadd, 1) := of_row (r := (374, .iadd, 1)) DL_law_b3 30 rfl
theorem dL_law_375 : decode cL_law 375 = .ok (.iaload, 1) := of_row (r := (375, .iaload, 1)) DL_law_b3 31 rfl
theorem dL_law_376 : decode cL_law 376 = .ok (.aload_n 0, 1) := of_row (r := (376, .aload_n 0, 1)) DL_law_b3 32 rfl
theorem dL_law_377 : decode cL_law 377 = .ok (.iload_n 3, 1) := of_row (r := (377, .iload_n 3, 1)) DL_law_b3 33 rfl
theorem dL_law_378 : decode cL_law 378 = .ok (.iconst 3, 1) := of_row (r := (378, .iconst 3, 1)) DL_law_b3 34 rfl
theorem dL_law_379 : decode cL_law 379 = .ok (.iadd, 1) := of_row (r := (379, .iadd, 1)) DL_law_b3 35 rfl
theorem dL_law_380 : decode cL_law 380 = .ok (.iaload, 1) := of_row (r := (380, .iaload, 1)) DL_law_b3 36 rfl
theorem dL_law_381 : decode cL_law 381 = .ok (.invokevirtual 46, 3) := of_row (r := (381, .invokevirtual 46, 3)) DL_law_b3 37 rfl
theorem dL_law_384 : decode cL_law 384 = .ok (.pop, 1) := of_row (r := (384, .pop, 1)) DL_law_b3 38 rfl
theorem dL_law_385 : decode cL_law 385 = .ok (.aload_n 2, 1) := of_row (r := (385, .aload_n 2, 1)) DL_law_b3 39 rfl
theorem dL_law_386 : decode cL_law 386 = .ok (.aload_n 0, 1) := of_row (r := (386, .aload_n 0, 1)) DL_law_b3 40 rfl
theorem dL_law_387 : decode cL_law 387 = .ok (.iload_n 3, 1) := of_row (r := (387, .iload_n 3, 1)) DL_law_b3 41 rfl
theorem dL_law_388 : decode cL_law 388 = .ok (.iconst 1, 1) := of_row (r := (388, .iconst 1, 1)) DL_law_b3 42 rfl
theorem dL_law_389 : decode cL_law 389 = .ok (.iadd, 1) := of_row (r := (389, .iadd, 1)) DL_law_b3 43 rfl
theorem dL_law_390 : decode cL_law 390 = .ok (.iaload, 1) := of_row (r := (390, .iaload, 1)) DL_law_b3 44 rfl
theorem dL_law_391 : decode cL_law 391 = .ok (.aload_n 0, 1) := of_row (r := (391, .aload_n 0, 1)) DL_law_b3 45 rfl
theorem dL_law_392 : decode cL_law 392 = .ok (.iload_n 3, 1) := of_row (r := (392, .iload_n 3, 1)) DL_law_b3 46 rfl
theorem dL_law_393 : decode cL_law 393 = .ok (.iconst 2, 1) := of_row (r := (393, .iconst 2, 1)) DL_law_b3 47 rfl
theorem dL_law_394 : decode cL_law 394 = .ok (.iadd, 1) := of_row (r := (394, .iadd, 1)) DL_law_b3 48 rfl
theorem dL_law_395 : decode cL_law 395 = .ok (.iaload, 1) := of_row (r := (395, .iaload, 1)) DL_law_b3 49 rfl
theorem dL_law_396 : decode cL_law 396 = .ok (.aload_n 0, 1) := of_row (r := (396, .aload_n 0, 1)) DL_law_b3 50 rfl
theorem dL_law_397 : decode cL_law 397 = .ok (.iload_n 3, 1) := of_row (r := (397, .iload_n 3, 1)) DL_law_b3 51 rfl
theorem dL_law_398 : decode cL_law 398 = .ok (.iconst 3, 1) := of_row (r := (398, .iconst 3, 1)) DL_law_b3 52 rfl
theorem dL_law_399 : decode cL_law 399 = .ok (.iadd, 1) := of_row (r := (399, .iadd, 1)) DL_law_b3 53 rfl
theorem dL_law_400 : decode cL_law 400 = .ok (.iaload, 1) := of_row (r := (400, .iaload, 1)) DL_law_b3 54 rfl
theorem dL_law_401 : decode cL_law 401 = .ok (.invokevirtual 49, 3) := of_row (r := (401, .invokevirtual 49, 3)) DL_law_b3 55 rfl
theorem dL_law_404 : decode cL_law 404 = .ok (.pop, 1) := of_row (r := (404, .pop, 1)) DL_law_b3 56 rfl
theorem dL_law_405 : decode cL_law 405 = .ok (.goto 471, 3) := of_row (r := (405, .goto 471, 3)) DL_law_b3 57 rfl
theorem dL_law_408 : decode cL_law 408 = .ok (.aload_n 1, 1) := of_row (r := (408, .aload_n 1, 1)) DL_law_b3 58 rfl
theorem dL_law_409 : decode cL_law 409 = .ok (.aload_n 0, 1) := of_row (r := (409, .aload_n 0, 1)) DL_law_b3 59 rfl
set_option maxRecDepth 20000 in
theorem DL_law_b4 : ([(410, .iload_n 3, 1), (411, .iconst 1, 1), (412, .iadd, 1), (413, .iaload, 1), (414, .aload_n 0, 1), (415, .iload_n 3, 1), (416, .iconst 2, 1), (417, .iadd, 1), (418, .iaload, 1), (419, .aload_n 0, 1), (420, .iload_n 3, 1), (421, .iconst 3, 1), (422, .iadd, 1), (423, .iaload, 1), (424, .aload_n 0, 1), (425, .iload_n 3, 1), (426, .iconst 4, 1), (427, .iadd, 1), (428, .iaload, 1), (429, .invokevirtual 50, 3), (432, .pop, 1), (433, .aload_n 2, 1), (434, .aload_n 0, 1), (435, .iload_n 3, 1), (436, .iconst 1, 1), (437, .iadd, 1), (438, .iaload, 1), (439, .aload_n 0, 1), (440, .iload_n 3, 1), (441, .iconst 2, 1), (442, .iadd, 1), (443, .iaload, 1), (444, .aload_n 0, 1), (445, .iload_n 3, 1), (446, .iconst 3, 1), (447, .iadd, 1), (448, .iaload, 1), (449, .aload_n 0, 1), (450, .iload_n 3, 1), (451, .iconst 4, 1), (452, .iadd, 1), (453, .iaload, 1), (454, .invokevirtual 54, 3), (457, .pop, 1), (458, .goto 418, 3), (461, .aload_n 1, 1), (462, .invokevirtual 55, 3), (465, .pop, 1), (466, .aload_n 2, 1), (467, .invokevirtual 58, 3), (470, .pop, 1), (471, .goto 405, 3), (474, .aload_n 1, 1), (475, .aload_n 0, 1), (476, .iload_n 3, 1), (477, .iconst 1, 1), (478, .iadd, 1), (479, .iaload, 1), (480, .aload_n 0, 1), (481, .iload_n 3, 1)] : List (Nat × Instr × Nat)).all (fun r => decide (decode cL_law r.1 = .ok r.2)) = true := by decide +kernel
theorem dL_law_410 : decode cL_law 410 = .ok (.iload_n 3, 1) := of_row (r := (410, .iload_n 3, 1)) DL_law_b4 0 rfl
theorem dL_law_411 : decode cL_law 411 = .ok (.iconst 1, 1) := of_row (r := (411, .iconst 1, 1)) DL_law_b4 1 rfl
theorem dL_law_412 : decode cL_law 412 = .ok (.iadd, 1) := of_row (r := (412, .iadd, 1)) DL_law_b4 2 rfl
theorem dL_law_413 : decode cL_law 413 = .ok (.iaload, 1) := of_row (r := (413, .iaload, 1)) DL_law_b4 3 rfl
theorem dL_law_414 : decode cL_law 414 = .ok (.aload_n 0, 1) := of_row (r := (414, .aload_n 0, 1)) DL_law_b4 4 rfl
theorem dL_law_415 : decode cL_law 415 = .ok (.iload_n 3, 1) := of_row (r := (415, .iload_n 3, 1)) DL_law_b4 5 rfl
theorem dL_law_416 : decode cL_law 416 = .ok (.iconst 2, 1) := of_row (r := (416, .iconst 2, 1)) DL_law_b4 6 rfl
theorem dL_law_417 : decode cL_law 417 = .ok (.iadd, 1) := of_row (r := (417, .iadd, 1)) DL_law_b4 7 rfl
theorem dL_law_418 : decode cL_law 418 = .ok (.iaload, 1) := of_row (r := (418, .iaload, 1)) DL_law_b4 8 rfl
theorem dL_law_419 : decode cL_law 419 = .ok (.aload_n 0, 1) := of_row (r := (419, .aload_n 0, 1)) DL_law_b4 9 rfl
theorem dL_law_420 : decode cL_law 420 = .ok (.iload_n 3, 1) := of_row (r := (420, .iload_n 3, 1)) DL_law_b4 10 rfl
theorem dL_law_421 : decode cL_law 421 = .ok (.iconst 3, 1) := of_row (r := (421, .iconst 3, 1)) DL_law_b4 11 rfl
theorem dL_law_422 : decode cL_law 422 = .ok (.iadd, 1) := of_row (r := (422, .iadd, 1)) DL_law_b4 12 rfl
theorem dL_law_423 : decode cL_law 423 = .ok (.iaload, 1) := of_row (r := (423, .iaload, 1)) DL_law_b4 13 rfl
theorem dL_law_424 : decode cL_law 424 = .ok (.aload_n 0, 1) := of_row (r := (424, .aload_n 0, 1)) DL_law_b4 14 rfl
theorem dL_law_425 : decode cL_law 425 = .ok (.iload_n 3, 1) := of_row (r := (425, .iload_n 3, 1)) DL_law_b4 15 rfl
theorem dL_law_426 : decode cL_law 426 = .ok (.iconst 4, 1) := of_row (r := (426, .iconst 4, 1)) DL_law_b4 16 rfl
theorem dL_law_427 : decode cL_law 427 = .ok (.iadd, 1) := of_row (r := (427, .iadd, 1)) DL_law_b4 17 rfl
theorem dL_law_428 : decode cL_law 428 = .ok (.iaload, 1) := of_row (r := (428, .iaload, 1)) DL_law_b4 18 rfl
theorem dL_law_429 : decode cL_law 429 = .ok (.invokevirtual 50, 3) := of_row (r := (429, .invokevirtual 50, 3)) DL_law_b4 19 rfl
theorem dL_law_432 : decode cL_law 432 = .ok (.pop, 1) := of_row (r := (432, .pop, 1)) DL_law_b4 20 rfl
theorem dL_law_433 : decode cL_law 433 = .ok (.aload_n 2, 1) := of_row (r := (433, .aload_n 2, 1)) DL_law_b4 21 rfl
theorem dL_law_434 : decode cL_law 434 = .ok (.aload_n 0, 1) := of_row (r := (434, .aload_n 0, 1)) DL_law_b4 22 rfl
theorem dL_law_435 : decode cL_law 435 = .ok (.iload_n 3, 1) := of_row (r := (435, .iload_n 3, 1)) DL_law_b4 23 rfl
theorem dL_law_436 : decode cL_law 436 = .ok (.iconst 1, 1) := of_row (r := (436, .iconst 1, 1)) DL_law_b4 24 rfl
theorem dL_law_437 : decode cL_law 437 = .ok (.iadd, 1) := of_row (r := (437, .iadd, 1)) DL_law_b4 25 rfl
theorem dL_law_438 : decode cL_law 438 = .ok (.iaload, 1) := of_row (r := (438, .iaload, 1)) DL_law_b4 26 rfl
theorem dL_law_439 : decode cL_law 439 = .ok (.aload_n 0, 1) := of_row (r := (439, .aload_n 0, 1)) DL_law_b4 27 rfl
theorem dL_law_440 : decode cL_law 440 = .ok (.iload_n 3, 1) := of_row (r := (440, .iload_n 3, 1)) DL_law_b4 28 rfl
theorem dL_law_441 : decode cL_law 441 = .ok (.iconst 2, 1) := of_row (r := (441, .iconst 2, 1)) DL_law_b4 29 rfl
theorem dL_law_442 : decode cL_law 442 = .ok (.iadd, 1) := of_row (r := (442, .iadd, 1)) DL_law_b4 30 rfl
theorem dL_law_443 : decode cL_law 443 = .ok (.iaload, 1) := of_row (r := (443, .iaload, 1)) DL_law_b4 31 rfl
theorem dL_law_444 : decode cL_law 444 = .ok (.aload_n 0, 1) := of_row (r := (444, .aload_n 0, 1)) DL_law_b4 32 rfl
theorem dL_law_445 : decode cL_law 445 = .ok (.iload_n 3, 1) := of_row (r := (445, .iload_n 3, 1)) DL_law_b4 33 rfl
theorem dL_law_446 : decode cL_law 446 = .ok (.iconst 3, 1) := of_row (r := (446, .iconst 3, 1)) DL_law_b4 34 rfl
theorem dL_law_447 : decode cL_law 447 = .ok (.iadd, 1) := of_row (r := (447, .iadd, 1)) DL_law_b4 35 rfl
theorem dL_law_448 : decode cL_law 448 = .ok (.iaload, 1) := of_row (r := (448, .iaload, 1)) DL_law_b4 36 rfl
theorem dL_law_449 : decode cL_law 449 = .ok (.aload_n 0, 1) := of_row (r := (449, .aload_n 0, 1)) DL_law_b4 37 rfl
theorem dL_law_450 : decode cL_law 450 = .ok (.iload_n 3, 1) := of_row (r := (450, .iload_n 3, 1)) DL_law_b4 38 rfl
theorem dL_law_451 : decode cL_law 451 = .ok (.iconst 4, 1) := of_row (r := (451, .iconst 4, 1)) DL_law_b4 39 rfl
theorem dL_law_452 : decode cL_law 452 = .ok (.iadd, 1) := of_row (r := (452, .iadd, 1)) DL_law_b4 40 rfl
theorem dL_law_453 : decode cL_law 453 = .ok (.iaload, 1) := of_row (r := (453, .iaload, 1)) DL_law_b4 41 rfl
theorem dL_law_454 : decode cL_law 454 = .ok (.invokevirtual 54, 3) := of_row (r := (454, .invokevirtual 54, 3)) DL_law_b4 42 rfl
theorem dL_law_457 : decode cL_law 457 = .ok (.pop, 1) := of_row (r := (457, .pop, 1)) DL_law_b4 43 rfl
theorem dL_law_458 : decode cL_law 458 = .ok (.goto 418, 3) := of_row (r := (458, .goto 418, 3)) DL_law_b4 44 rfl
theorem dL_law_461 : decode cL_law 461 = .ok (.aload_n 1, 1) := of_row (r := (461, .aload_n 1, 1)) DL_law_b4 45 rfl
theorem dL_law_462 : decode cL_law 462 = .ok (.invokevirtual 55, 3) := of_row (r := (462, .invokevirtual 55, 3)) DL_law_b4 46 rfl
theorem dL_law_465 : decode cL_law 465 = .ok (.pop, 1) := of_row (r := (465, .pop, 1)) DL_law_b4 47 rfl
theorem dL_law_466 : decode cL_law 466 = .ok (.aload_n 2, 1) := of_row (r := (466, .aload_n 2, 1)) DL_law_b4 48 rfl
theorem dL_law_467 : decode cL_law 467 = .ok (.invokevirtual 58, 3) := of_row (r := (467, .invokevirtual 58, 3)) DL_law_b4 49 rfl
theorem dL_law_470 : decode cL_law 470 = .ok (.pop, 1) := of_row (r := (470, .pop, 1)) DL_law_b4 50 rfl
theorem dL_law_471 : decode cL_law 471 = .ok (.goto 405, 3) := of_row (r := (471, .goto 405, 3)) DL_law_b4 51 rfl
theorem dL_law_474 : decode cL_law 474 = .ok (.aload_n 1, 1) := of_row (r := (474, .aload_n 1, 1)) DL_law_b4 52 rfl
theorem dL_law_475 : decode cL_law 475 = .ok (.aload_n 0, 1) := of_row (r := (475, .aload_n 0, 1)) DL_law_b4 53 rfl
theorem dL_law_476 : decode cL_law 476 = .ok (.iload_n 3, 1) := of_row (r := (476, .iload_n 3, 1)) DL_law_b4 54 rfl
theorem dL_law_477 : decode cL_law 477 = .ok (.iconst 1, 1) := of_row (r := (477, .iconst 1, 1)) DL_law_b4 55 rfl
theorem dL_law_478 : decode cL_law 478 = .ok (.iadd, 1) := of_row (r := (478, .iadd, 1)) DL_law_b4 56 rfl
theorem dL_law_479 : decode cL_law 479 = .ok (.iaload, 1) := of_row (r := (479, .iaload, 1)) DL_law_b4 57 rfl
theorem dL_law_480 : decode cL_law 480 = .ok (.aload_n 0, 1) := of_row (r := (480, .aload_n 0, 1)) DL_law_b4 58 rfl
theorem dL_law_481 : decode cL_law 481 = .ok (.iload_n 3, 1) := of_row (r := (481, .iload_n 3, 1)) DL_law_b4 59 rfl
set_option maxRecDepth 20000 in
theorem DL_law_b5 : ([(482, .iconst 2, 1), (483, .iadd, 1), (484, .iaload, 1), (485, .invokevirtual 59, 3), (488, .pop, 1), (489, .aload_n 2, 1), (490, .aload_n 0, 1), (491, .iload_n 3, 1), (492, .iconst 1, 1), (493, .iadd, 1), (494, .iaload, 1), (495, .aload_n 0, 1), (496, .iload_n 3, 1), (497, .iconst 2, 1), (498, .iadd, 1), (499, .iaload, 1), (500, .invokevirtual 62, 3), (503, .pop, 1), (504, .goto 372, 3), (507, .aload_n 1, 1), (508, .aload_n 0, 1), (509, .iload_n 3, 1), (510, .iconst 1, 1), (511, .iadd, 1), (512, .iaload, 1), (513, .invokevirtual 63, 3), (516, .pop, 1), (517, .aload_n 2, 1), (518, .aload_n 0, 1), (519, .iload_n 3, 1), (520, .iconst 1, 1), (521, .iadd, 1), (522, .iaload, 1), (523, .invokevirtual 66, 3), (526, .pop, 1), (527, .goto 349, 3), (530, .aload_n 1, 1), (531, .aload_n 0, 1), (532, .iload_n 3, 1), (533, .iconst 1, 1), (534, .iadd, 1), (535, .iaload, 1), (536, .aload_n 0, 1), (537, .iload_n 3, 1), (538, .iconst 2, 1), (539, .iadd, 1), (540, .iaload, 1), (541, .invokevirtual 67, 3), (544, .pop, 1), (545, .aload_n 2, 1), (546, .aload_n 0, 1), (547, .iload_n 3, 1), (548, .iconst 1, 1), (549, .iadd, 1), (550, .iaload, 1), (551, .aload_n 0, 1), (552, .iload_n 3, 1), (553, .iconst 2, 1), (554, .iadd, 1), (555, .iaload, 1)] : List (Nat × Instr × Nat)).all (fun r => decide (decode cL_law r.1 = .ok r.2)) = true := by decide +kernel
theorem dL_law_482 : decode cL_law 482 = .ok (.iconst 2, 1) := of_row (r := (482, .iconst 2, 1)) DL_law_b5 0 rfl
theorem dL_law_483 : decode cL_law 483 = .ok (.iadd, 1) := of_row (r := (483, .iadd, 1)) DL_law_b5 1 rfl
theorem dL_law_484 : decode cL_law 484 = .ok (.iaload, 1) := of_row (r := (484, .iaload, 1)) DL_law_b5 2 rfl
theorem dL_law_485 : decode cL_law 485 = .ok (.invokevirtual 59, 3) := of_row (r := (485, .invokevirtual 59, 3)) DL_law_b5 3 rfl
theorem dL_law_488 : decode cL_law 488 = .ok (.pop, 1) := of_row (r := (488, .pop, 1)) DL_law_b5 4 rfl
theorem dL_law_489 : decode cL_law 489 = .ok (.aload_n 2, 1) := of_row (r := (489, .aload_n 2, 1)) DL_law_b5 5 rfl
theorem dL_law_490 : decode cL_law 490 = .ok (.aload_n 0, 1) := of_row (r := (490, .aload_n 0, 1)) DL_law_b5 6 rfl
theorem dL_law_491 : decode cL_law 491 = .ok (.iload_n 3, 1) := of_row (r := (491, .iload_n 3, 1)) DL_law_b5 7 rfl
theorem dL_law_492 : decode cL_law 492 = .ok (.iconst 1, 1) := of_row (r := (492, .iconst 1, 1)) DL_law_b5 8 rfl
theorem dL_law_493 : decode cL_law 493 = .ok (.iadd, 1) := of_row (r := (493, .iadd, 1)) DL_law_b5 9 rfl
theorem dL_law_494 : decode cL_law 494 = .ok (.iaload, 1) := of_row (r := (494, .iaload, 1)) DL_law_b5 10 rfl
theorem dL_law_495 : decode cL_law 495 = .ok (.aload_n 0, 1) := of_row (r := (495, .aload_n 0, 1)) DL_law_b5 11 rfl
theorem dL_law_496 : decode cL_law 496 = .ok (.iload_n 3, 1) := of_row (r := (496, .iload_n 3, 1)) DL_law_b5 12 rfl
theorem dL_law_497 : decode cL_law 497 = .ok (.iconst 2, 1) := of_row (r := (497, .iconst 2, 1)) DL_law_b5 13 rfl
theorem dL_law_498 : decode cL_law 498 = .ok (.iadd, 1) := of_row (r := (498, .iadd, 1)) DL_law_b5 14 rfl
theorem dL_law_499 : decode cL_law 499 = .ok (.iaload, 1) := of_row (r := (499, .iaload, 1)) DL_law_b5 15 rfl
theorem dL_law_500 : decode cL_law 500 = .ok (.invokevirtual 62, 3) := of_row (r := (500, .invokevirtual 62, 3)) DL_law_b5 16 rfl
theorem dL_law_503 : decode cL_law 503 = .ok (.pop, 1) := of_row (r := (503, .pop, 1)) DL_law_b5 17 rfl
theorem dL_law_504 : decode cL_law 504 = .ok (.goto 372, 3) := of_row (r := (504, .goto 372, 3)) DL_law_b5 18 rfl
theorem dL_law_507 : decode cL_law 507 = .ok (.aload_n 1, 1) := of_row (r := (507, .aload_n 1, 1)) DL_law_b5 19 rfl
theorem dL_law_508 : decode cL_law 508 = .ok (.aload_n 0, 1) := of_row (r := (508, .aload_n 0, 1)) DL_law_b5 20 rfl
theorem dL_law_509 : decode cL_law 509 = .ok (.iload_n 3, 1) := of_row (r := (509, .iload_n 3, 1)) DL_law_b5 21 rfl
theorem dL_law_510 : decode cL_law 510 = .ok (.iconst 1, 1) := of_row (r := (510, .iconst 1, 1)) DL_law_b5 22 rfl
theorem dL_law_511 : decode cL_law 511 = .ok (.iadd, 1) := of_row (r := (511, .iadd, 1)) DL_law_b5 23 rfl
theorem dL_law_512 : decode cL_law 512 = .ok (.iaload, 1) := of_row (r := (512, .iaload, 1)) DL_law_b5 24 rfl
theorem dL_law_513 : decode cL_law 513 = .ok (.invokevirtual 63, 3) := of_row (r := (513, .invokevirtual 63, 3)) DL_law_b5 25 rfl
theorem dL_law_516 : decode cL_law 516 = .ok (.pop, 1) := of_row (r := (516, .pop, 1)) DL_law_b5 26 rfl
theorem dL_law_517 : decode cL_law 517 = .ok (.aload_n 2, 1) := of_row (r := (517, .aload_n 2, 1)) DL_law_b5 27 rfl
theorem dL_law_518 : decode cL_law 518 = .ok (.aload_n 0, 1) := of_row (r := (518, .aload_n 0, 1)) DL_law_b5 28 rfl
theorem dL_law_519 : decode cL_law 519 = .ok (.iload_n 3, 1) := of_row (r := (519, .iload_n 3, 1)) DL_law_b5 29 rfl
theorem dL_law_520 : decode cL_law 520 = .ok (.iconst 1, 1) := of_row (r := (520, .iconst 1, 1)) DL_law_b5 30 rfl
theorem dL_law_521 : decode cL_law 521 = .ok (.iadd, 1) := of_row (r := (521, .iadd, 1)) DL_law_b5 31 rfl
theorem dL_law_522 : decode cL_law 522 = .ok (.iaload, 1) := of_row (r := (522, .iaload, 1)) DL_law_b5 32 rfl
theorem dL_law_523 : decode cL_law 523 = .ok (.invokevirtual 66, 3) := of_row (r := (523, .invokevirtual 66, 3)) DL_law_b5 33 rfl
theorem dL_law_526 : decode cL_law 526 = .ok (.pop, 1) := of_row (r := (526, .pop, 1)) DL_law_b5 34 rfl
theorem dL_law_527 : decode cL_law 527 = .ok (.goto 349, 3) := of_row (r := (527, .goto 349, 3)) DL_law_b5 35 rfl
theorem dL_law_530 : decode cL_law 530 = .ok (.aload_n 1, 1) := of_row (r := (530, .aload_n 1, 1)) DL_law_b5 36 rfl
theorem dL_law_531 : decode cL_law 531 = .ok (.aload_n 0, 1) := of_row (r := (531, .aload_n 0, 1)) DL_law_b5 37 rfl
theorem dL_law_532 : decode cL_law 532 = .ok (.iload_n 3, 1) := of_row (r := (532, .iload_n 3, 1)) DL_law_b5 38 rfl
theorem dL_law_533 : decode cL_law 533 = .ok (.iconst 1, 1) := of_row (r := (533, .iconst 1, 1)) DL_law_b5 39 rfl
theorem dL_law_534 : decode cL_law 534 = .ok (.iadd, 1) := of_row (r := (534, .iadd, 1)) DL_law_b5 40 rfl
theorem dL_law_535 : decode cL_law 535 = .ok (.iaload, 1) := of_row (r := (535, .iaload, 1)) DL_law_b5 41 rfl
theorem dL_law_536 : decode cL_law 536 = .ok (.aload_n 0, 1) := of_row (r := (536, .aload_n 0, 1)) DL_law_b5 42 rfl
theorem dL_law_537 : decode cL_law 537 = .ok (.iload_n 3, 1) := of_row (r := (537, .iload_n 3, 1)) DL_law_b5 43 rfl
theorem dL_law_538 : decode cL_law 538 = .ok (.iconst 2, 1) := of_row (r := (538, .iconst 2, 1)) DL_law_b5 44 rfl
theorem dL_law_539 : decode cL_law 539 = .ok (.iadd, 1) := of_row (r := (539, .iadd, 1)) DL_law_b5 45 rfl
theorem dL_law_540 : decode cL_law 540 = .ok (.iaload, 1) := of_row (r := (540, .iaload, 1)) DL_law_b5 46 rfl
theorem dL_law_541 : decode cL_law 541 = .ok (.invokevirtual 67, 3) := of_row (r := (541, .invokevirtual 67, 3)) DL_law_b5 47 rfl
theorem dL_law_544 : decode cL_law 544 = .ok (.pop, 1) := of_row (r := (544, .pop, 1)) DL_law_b5 48 rfl
theorem dL_law_545 : decode cL_law 545 = .ok (.aload_n 2, 1) := of_row (r := (545, .aload_n 2, 1)) DL_law_b5 49 rfl
theorem dL_law_546 : decode cL_law 546 = .ok (.aload_n 0, 1) := of_row (r := (546, .aload_n 0, 1)) DL_law_b5 50 rfl
theorem dL_law_547 : decode cL_law 547 = .ok (.iload_n 3, 1) := of_row (r := (547, .iload_n 3, 1)) DL_law_b5 51 rfl
theorem dL_law_548 : decode cL_law 548 = .ok (.iconst 1, 1) := of_row (r := (548, .iconst 1, 1)) DL_law_b5 52 rfl
theorem dL_law_549 : decode cL_law 549 = .ok (.iadd, 1) := of_row (r := (549, .iadd, 1)) DL_law_b5 53 rfl
theorem dL_law_550 : decode cL_law 550 = .ok (.iaload, 1) := of_row (r := (550, .iaload, 1)) DL_law_b5 54 rfl
theorem dL_law_551 : decode cL_law 551 = .ok (.aload_n 0, 1) := of_row (r := (551, .aload_n 0, 1)) DL_law_b5 55 rfl
theorem dL_law_552 : decode cL_law 552 = .ok (.iload_n 3, 1) := of_row (r := (552, .iload_n 3, 1)) DL_law_b5 56 rfl
theorem dL_law_553 : decode cL_law 553 = .ok (.iconst 2, 1) := of_row (r := (553, .iconst 2, 1)) DL_law_b5 57 rfl
theorem dL_law_554 : decode cL_law 554 = .ok (.iadd, 1) := of_row (r := (554, .iadd, 1)) DL_law_b5 58 rfl
theorem dL_law_555 : decode cL_law 555 = .ok (.iaload, 1) := of_row (r := (555, .iaload, 1)) DL_law_b5 59 rfl
set_option maxRecDepth 20000 in
theorem DL_law_b6 : ([(556, .invokevirtual 70, 3), (559, .pop, 1), (560, .goto 316, 3), (563, .aload_n 1, 1), (564, .aload_n 0, 1), (565, .iload_n 3, 1), (566, .iconst 1, 1), (567, .iadd, 1), (568, .iaload, 1), (569, .aload_n 0, 1), (570, .iload_n 3, 1), (571, .iconst 2, 1), (572, .iadd, 1), (573, .iaload, 1), (574, .invokevirtual 71, 3), (577, .pop, 1), (578, .aload_n 2, 1), (579, .aload_n 0, 1), (580, .iload_n 3, 1), (581, .iconst 1, 1), (582, .iadd, 1), (583, .iaload, 1), (584, .aload_n 0, 1), (585, .iload_n 3, 1), (586, .iconst 2, 1), (587, .iadd, 1), (588, .iaload, 1), (589, .invokevirtual 74, 3), (592, .pop, 1), (593, .goto 283, 3), (596, .aload_n 1, 1), (597, .aload_n 0, 1), (598, .iload_n 3, 1), (599, .iconst 1, 1), (600, .iadd, 1), (601, .iaload, 1), (602, .aload_n 0, 1), (603, .iload_n 3, 1), (604, .iconst 2, 1), (605, .iadd, 1), (606, .iaload, 1), (607, .invokevirtual 75, 3), (610, .pop2, 1), (611, .aload_n 2, 1), (612, .aload_n 0, 1), (613, .iload_n 3, 1), (614, .iconst 1, 1), (615, .iadd, 1), (616, .iaload, 1), (617, .aload_n 0, 1), (618, .iload_n 3, 1), (619, .iconst 2, 1), (620, .iadd, 1), (621, .iaload, 1), (622, .invokevirtual 79, 3), (625, .pop2, 1), (626, .goto 250, 3), (629, .aload_n 1, 1), (630, .aload_n 0, 1), (631, .iload_n 3, 1)] : List (Nat × Instr × Nat)).all (fun r => decide (decode cL_law r.1 = .ok r.2)) = true := by decide +kernel
theorem dL_law_556 : decode cL_law 556 = .ok (.invokevirtual 70, 3) := of_row (r := (556, .invokevirtual 70, 3)) DL_law_b6 0 rfl
theorem dL_law_559 : decode cL_law 559 = .ok (.pop, 1) := of_row (r := (559, .pop, 1)) DL_law_b6 1 rfl
theorem dL_law_560 : decode cL_law 560 = .ok (.goto 316, 3) := of_row (r := (560, .goto 316, 3)) DL_law_b6 2 rfl
theorem dL_law_563 : decode cL_law 563 = .ok (.aload_n 1, 1) := of_row (r := (563, .aload_n 1, 1)) DL_law_b6 3 rfl
theorem dL_law_564 : decode cL_law 564 = .ok (.aload_n 0, 1) := of_row (r := (564, .aload_n 0, 1)) DL_law_b6 4 rfl
theorem dL_law_565 : decode cL_law 565 = .ok (.iload_n 3, 1) := of_row (r := (565, .iload_n 3, 1)) DL_law_b6 5 rfl
theorem dL_law_566 : decode cL_law 566 = .ok (.iconst 1, 1) := of_row (r := (566, .iconst 1, 1)) DL_law_b6 6 rfl
theorem dL_law_567 : decode cL_law 567 = .ok (.iadd, 1) := of_row (r := (567, .iadd, 1)) DL_law_b6 7 rfl
theorem dL_law_568 : decode cL_law 568 = .ok (.iaload, 1) := of_row (r := (568, .iaload, 1)) DL_law_b6 8 rfl
theorem dL_law_569 : decode cL_law 569 = .ok (.aload_n 0, 1) := of_row (r := (569, .aload_n 0, 1)) DL_law_b6 9 rfl
theorem dL_law_570 : decode cL_law 570 = .ok (.iload_n 3, 1) := of_row (r := (570, .iload_n 3, 1)) DL_law_b6 10 rfl
theorem dL_law_571 : decode cL_law 571 = .ok (.iconst 2, 1) := of_row (r := (571, .iconst 2, 1)) DL_law_b6 11 rfl
theorem dL_law_572 : decode cL_law 572 = .ok (.iadd, 1) := of_row (r := (572, .iadd, 1)) DL_law_b6 12 rfl
theorem dL_law_573 : decode cL_law 573 = .ok (.iaload, 1) := of_row (r := (573, .iaload, 1)) DL_law_b6 13 rfl
theorem dL_law_574 : decode cL_law 574 = .ok (.invokevirtual 71, 3) := of_row (r := (574, .invokevirtual 71, 3)) DL_law_b6 14 rfl
theorem dL_law_577 : decode cL_law 577 = .ok (.pop, 1) := of_row (r := (577, .pop, 1)) DL_law_b6 15 rfl
theorem dL_law_578 : decode cL_law 578 = .ok (.aload_n 2, 1) := of_row (r := (578, .aload_n 2, 1)) DL_law_b6 16 rfl
theorem dL_law_579 : decode cL_law 579 = .ok (.aload_n 0, 1) := of_row (r := (579, .aload_n 0, 1)) DL_law_b6 17 rfl
theorem dL_law_580 : decode cL_law 580 = .ok (.iload_n 3, 1) := of_row (r := (580, .iload_n 3, 1)) DL_law_b6 18 rfl
theorem dL_law_581 : decode cL_law 581 = .ok (.iconst 1, 1) := of_row (r := (581, .iconst 1, 1)) DL_law_b6 19 rfl
theorem dL_law_582 : decode cL_law 582 = .ok (.iadd, 1) := of_row (r := (582, .iadd, 1)) DL_law_b6 20 rfl
theorem dL_law_583 : decode cL_law 583 = .ok (.iaload, 1) := of_row (r := (583, .iaload, 1)) DL_law_b6 21 rfl
theorem dL_law_584 : decode cL_law 584 = .ok (.aload_n 0, 1) := of_row (r := (584, .aload_n 0, 1)) DL_law_b6 22 rfl
theorem dL_law_585 : decode cL_law 585 = .ok (.iload_n 3, 1) := of_row (r := (585, .iload_n 3, 1)) DL_law_b6 23 rfl
theorem dL_law_586 : decode cL_law 586 = .ok (.iconst 2, 1) := of_row (r := (586, .iconst 2, 1)) DL_law_b6 24 rfl
theorem dL_law_587 : decode cL_law 587 = .ok (.iadd, 1) := of_row (r := (587, .iadd, 1)) DL_law_b6 25 rfl
theorem dL_law_588 : decode cL_law 588 = .ok (.iaload, 1) := of_row (r := (588, .iaload, 1)) DL_law_b6 26 rfl
theorem dL_law_589 : decode cL_law 589 = .ok (.invokevirtual 74, 3) := of_row (r := (589, .invokevirtual 74, 3)) DL_law_b6 27 rfl
theorem dL_law_592 : decode cL_law 592 = .ok (.pop, 1) := of_row (r := (592, .pop, 1)) DL_law_b6 28 rfl
theorem dL_law_593 : decode cL_law 593 = .ok (.goto 283, 3) := of_row (r := (593, .goto 283, 3)) DL_law_b6 29 rfl
theorem dL_law_596 : decode cL_law 596 = .ok (.aload_n 1, 1) := of_row (r := (596, .aload_n 1, 1)) DL_law_b6 30 rfl
theorem dL_law_597 : decode cL_law 597 = .ok (.aload_n 0, 1) := of_row (r := (597, .aload_n 0, 1)) DL_law_b6 31 rfl
theorem dL_law_598 : decode cL_law 598 = .ok (.iload_n 3, 1) := of_row (r := (598, .iload_n 3, 1)) DL_law_b6 32 rfl
theorem dL_law_599 : decode cL_law 599 = .ok (.iconst 1, 1) := of_row (r := (599, .iconst 1, 1)) DL_law_b6 33 rfl
theorem dL_law_600 : decode cL_law 600 = .ok (.iadd, 1) := of_row (r := (600, .iadd, 1)) DL_law_b6 34 rfl
theorem dL_law_601 : decode cL_law 601 = .ok (.iaload, 1) := of_row (r := (601, .iaload, 1)) DL_law_b6 35 rfl
theorem dL_law_602 : decode cL_law 602 = .ok (.aload_n 0, 1) := of_row (r := (602, .aload_n 0, 1)) DL_law_b6 36 rfl
theorem dL_law_603 : decode cL_law 603 = .ok (.iload_n 3, 1) := of_row (r := (603, .iload_n 3, 1)) DL_law_b6 37 rfl
theorem dL_law_604 : decode cL_law 604 = .ok (.iconst 2, 1) := of_row (r := (604, .iconst 2, 1)) DL_law_b6 38 rfl
theorem dL_law_605 : decode cL_law 605 = .ok (.iadd, 1) := of_row (r := (605, .iadd, 1)) DL_law_b6 39 rfl
theorem dL_law_606 : decode cL_law 606 = .ok (.iaload, 1) := of_row (r := (606, .iaload, 1)) DL_law_b6 40 rfl
theorem dL_law_607 : decode cL_law 607 = .ok (.invokevirtual 75, 3) := of_row (r := (607, .invokevirtual 75, 3)) DL_law_b6 41 rfl
theorem dL_law_610 : decode cL_law 610 = .ok (.pop2, 1) := of_row (r := (610, .pop2, 1)) DL_law_b6 42 rfl
theorem dL_law_611 : decode cL_law 611 = .ok (.aload_n 2, 1) := of_row (r := (611, .aload_n 2, 1)) DL_law_b6 43 rfl
theorem dL_law_612 : decode cL_law 612 = .ok (.aload_n 0, 1) := of_row (r := (612, .aload_n 0, 1)) DL_law_b6 44 rfl
theorem dL_law_613 : decode cL_law 613 = .ok (.iload_n 3, 1) := of_row (r := (613, .iload_n 3, 1)) DL_law_b6 45 rfl
theorem dL_law_614 : decode cL_law 614 = .ok (.iconst 1, 1) := of_row (r := (614, .iconst 1, 1)) DL_law_b6 46 rfl
theorem dL_law_615 : decode cL_law 615 = .ok (.iadd, 1) := of_row (r := (615, .iadd, 1)) DL_law_b6 47 rfl
theorem dL_law_616 : decode cL_law 616 = .ok (.iaload, 1) := of_row (r := (616, .iaload, 1)) DL_law_b6 48 rfl
theorem dL_law_617 : decode cL_law 617 = .ok (.aload_n 0, 1) := of_row (r := (617, .aload_n 0, 1)) DL_law_b6 49 rfl
theorem dL_law_618 : decode cL_law 618 = .ok (.iload_n 3, 1) := of_row (r := (618, .iload_n 3, 1)) DL_law_b6 50 rfl
theorem dL_law_619 : decode cL_law 619 = .ok (.iconst 2, 1) := of_row (r := (619, .iconst 2, 1)) DL_law_b6 51 rfl
theorem dL_law_620 : decode cL_law 620 = .ok (.iadd, 1) := of_row (r := (620, .iadd, 1)) DL_law_b6 52 rfl
theorem dL_law_621 : decode cL_law 621 = .ok (.iaload, 1) := of_row (r := (621, .iaload, 1)) DL_law_b6 53 rfl
theorem dL_law_622 : decode cL_law 622 = .ok (.invokevirtual 79, 3) := of_row (r := (622, .invokevirtual 79, 3)) DL_law_b6 54 rfl
theorem dL_law_625 : decode cL_law 625 = .ok (.pop2, 1) := of_row (r := (625, .pop2, 1)) DL_law_b6 55 rfl
theorem dL_law_626 : decode cL_law 626 = .ok (.goto 250, 3) := of_row (r := (626, .goto 250, 3)) DL_law_b6 56 rfl
theorem dL_law_629 : decode cL_law 629 = .ok (.aload_n 1, 1) := of_row (r := (629, .aload_n 1, 1)) DL_law_b6 57 rfl
theorem dL_law_630 : decode cL_law 630 = .ok (.aload_n 0, 1) := of_row (r := (630, .aload_n 0, 1)) DL_law_b6 58 rfl
theorem dL_law_631 : decode cL_law 631 = .ok (.iload_n 3, 1) := of_row (r := (631, .iload_n 3, 1)) DL_law_b6 59 rfl
set_option maxRecDepth 20000 in
theorem DL_law_b7 : ([(632, .iconst 1, 1), (633, .iadd, 1), (634, .iaload, 1), (635, .aload_n 0, 1), (636, .iload_n 3, 1), (637, .iconst 2, 1), (638, .iadd, 1), (639, .iaload, 1), (640, .invokevirtual 80, 3), (643, .pop, 1), (644, .aload_n 2, 1), (645, .aload_n 0, 1), (646, .iload_n 3, 1), (647, .iconst 1, 1), (648, .iadd, 1), (649, .iaload, 1), (650, .aload_n 0, 1), (651, .iload_n 3, 1), (652, .iconst 2, 1), (653, .iadd, 1), (654, .iaload, 1), (655, .invokevirtual 83, 3), (658, .pop, 1), (659, .goto 217, 3), (662, .aload_n 1, 1), (663, .aload_n 0, 1), (664, .iload_n 3, 1), (665, .iconst 1, 1), (666, .iadd, 1), (667, .iaload, 1), (668, .aload_n 0, 1), (669, .iload_n 3, 1), (670, .iconst 2, 1), (671, .iadd, 1), (672, .iaload, 1), (673, .invokevirtual 84, 3), (676, .pop, 1), (677, .aload_n 2, 1), (678, .aload_n 0, 1), (679, .iload_n 3, 1), (680, .iconst 1, 1), (681, .iadd, 1), (682, .iaload, 1), (683, .aload_n 0, 1), (684, .iload_n 3, 1), (685, .iconst 2, 1), (686, .iadd, 1), (687, .iaload, 1), (688, .invokevirtual 87, 3), (691, .pop, 1), (692, .goto 184, 3), (695, .aload_n 1, 1), (696, .aload_n 0, 1), (697, .iload_n 3, 1), (698, .iconst 1, 1), (699, .iadd, 1), (700, .iaload, 1), (701, .aload_n 0, 1), (702, .iload_n 3, 1), (703, .iconst 2, 1)] : List (Nat × Instr × Nat)).all (fun r => decide (decode cL_law r.1 = .ok r.2)) = true := by decide +kernel
theorem dL_law_632 : decode cL_law 632 = .ok (.iconst 1, 1) := of_row (r := (632, .iconst 1, 1)) DL_law_b7 0 rfl
theorem dL_law_633 : decode cL_law 633 = .ok (.iadd, 1) := of_row (r := (633, .iadd, 1)) DL_law_b7 1 rfl
theorem dL_law_634 : decode cL_law 634 = .ok (.iaload, 1) := of_row (r := (634, .iaload, 1)) DL_law_b7 2 rfl
theorem dL_law_635 : decode cL_law 635 = .ok (.aload_n 0, 1) := of_row (r := (635, .aload_n 0, 1)) DL_law_b7 3 rfl
theorem dL_law_636 : decode cL_law 636 = .ok (.iload_n 3, 1) := of_row (r := (636, .iload_n 3, 1)) DL_law_b7 4 rfl
theorem dL_law_637 : decode cL_law 637 = .ok (.iconst 2, 1) := of_row (r := (637, .iconst 2, 1)) DL_law_b7 5 rfl
theorem dL_law_638 : decode cL_law 638 = .ok (.iadd, 1) := of_row (r := (638, .iadd, 1)) DL_law_b7 6 rfl
theorem dL_law_639 : decode cL_law 639 = .ok (.iaload, 1) := of_row (r := (639, .iaload, 1)) DL_law_b7 7 rfl
theorem dL_law_640 : decode cL_law 640 = .ok (.invokevirtual 80, 3) := of_row (r := (640, .invokevirtual 80, 3)) DL_law_b7 8 rfl
theorem dL_law_643 : decode cL_law 643 = .ok (.pop, 1) := of_row (r := (643, .pop, 1)) DL_law_b7 9 rfl
theorem dL_law_644 : decode cL_law 644 = .ok (.aload_n 2, 1) := of_row (r := (644, .aload_n 2, 1)) DL_law_b7 10 rfl
theorem dL_law_645 : decode cL_law 645 = .ok (.aload_n 0, 1) := of_row (r := (645, .aload_n 0, 1)) DL_law_b7 11 rfl
theorem dL_law_646 : decode cL_law 646 = .ok (.iload_n 3, 1) := of_row (r := (646, .iload_n 3, 1)) DL_law_b7 12 rfl
theorem dL_law_647 : decode cL_law 647 = .ok (.iconst 1, 1) := of_row (r := (647, .iconst 1, 1)) DL_law_b7 13 rfl
theorem dL_law_648 : decode cL_law 648 = .ok (.iadd, 1) := of_row (r := (648, .iadd, 1)) DL_law_b7 14 rfl
theorem dL_law_649 : decode cL_law 649 = .ok (.iaload, 1) := of_row (r := (649, .iaload, 1)) DL_law_b7 15 rfl
theorem dL_law_650 : decode cL_law 650 = .ok (.aload_n 0, 1) := of_row (r := (650, .aload_n 0, 1)) DL_law_b7 16 rfl
theorem dL_law_651 : decode cL_law 651 = .ok (.iload_n 3, 1) := of_row (r := (651, .iload_n 3, 1)) DL_law_b7 17 rfl
theorem dL_law_652 : decode cL_law 652 = .ok (.iconst 2, 1) := of_row (r := (652, .iconst 2, 1)) DL_law_b7 18 rfl
theorem dL_law_653 : decode cL_law 653 = .ok (.iadd, 1) := of_row (r := (653, .iadd, 1)) DL_law_b7 19 rfl
theorem dL_law_654 : decode cL_law 654 = .ok (.iaload, 1) := of_row (r := (654, .iaload, 1)) DL_law_b7 20 rfl
theorem dL_law_655 : decode cL_law 655 = .ok (.invokevirtual 83, 3) := of_row (r := (655, .invokevirtual 83, 3)) DL_law_b7 21 rfl
theorem dL_law_658 : decode cL_law 658 = .ok (.pop, 1) := of_row (r := (658, .pop, 1)) DL_law_b7 22 rfl
theorem dL_law_659 : decode cL_law 659 = .ok (.goto 217, 3) := of_row (r := (659, .goto 217, 3)) DL_law_b7 23 rfl
theorem dL_law_662 : decode cL_law 662 = .ok (.aload_n 1, 1) := of_row (r := (662, .aload_n 1, 1)) DL_law_b7 24 rfl
theorem dL_law_663 : decode cL_law 663 = .ok (.aload_n 0, 1) := of_row (r := (663, .aload_n 0, 1)) DL_law_b7 25 rfl
theorem dL_law_664 : decode cL_law 664 = .ok (.iload_n 3, 1) := of_row (r := (664, .iload_n 3, 1)) DL_law_b7 26 rfl
theorem dL_law_665 : decode cL_law 665 = .ok (.iconst 1, 1) := of_row (r := (665, .iconst 1, 1)) DL_law_b7 27 rfl
theorem dL_law_666 : decode cL_law 666 = .ok (.iadd, 1) := of_row (r := (666, .iadd, 1)) DL_law_b7 28 rfl
theorem dL_law_667 : decode cL_law 667 = .ok (.iaload, 1) := of_row (r := (667, .iaload, 1)) DL_law_b7 29 rfl
theorem dL_law_668 : decode cL_law 668 = .ok (.aload_n 0, 1) := of_row (r := (668, .aload_n 0, 1)) DL_law_b7 30 rfl
theorem dL_law_669 : decode cL_law 669 = .ok (.iload_n 3, 1) := of_row (r := (669, .iload_n 3, 1)) DL_law_b7 31 rfl
theorem dL_law_670 : decode cL_law 670 = .ok (.iconst 2, 1) := of_row (r := (670, .iconst 2, 1)) DL_law_b7 32 rfl
theorem dL_law_671 : decode cL_law 671 = .ok (.iadd, 1) := of_row (r := (671, .iadd, 1)) DL_law_b7 33 rfl
theorem dL_law_672 : decode cL_law 672 = .ok (.iaload, 1) := of_row (r := (672, .iaload, 1)) DL_law_b7 34 rfl
theorem dL_law_673 : decode cL_law 673 = .ok (.invokevirtual 84, 3) := of_row (r := (673, .invokevirtual 84, 3)) DL_law_b7 35 rfl
theorem dL_law_676 : decode cL_law 676 = .ok (.pop, 1) := of_row (r := (676, .pop, 1)) DL_law_b7 36 rfl
theorem dL_law_677 : decode cL_law 677 = .ok (.aload_n 2, 1) := of_row (r := (677, .aload_n 2, 1)) DL_law_b7 37 rfl
theorem dL_law_678 : decode cL_law 678 = .ok (.aload_n 0, 1) := of_row (r := (678, .aload_n 0, 1)) DL_law_b7 38 rfl
theorem dL_law_679 : decode cL_law 679 = .ok (.iload_n 3, 1) := of_row (r := (679, .iload_n 3, 1)) DL_law_b7 39 rfl
theorem dL_law_680 : decode cL_law 680 = .ok (.iconst 1, 1) := of_row (r := (680, .iconst 1, 1)) DL_law_b7 40 rfl
theorem dL_law_681 : decode cL_law 681 = .ok (.iadd, 1) := of_row (r := (681, .iadd, 1)) DL_law_b7 41 rfl
theorem dL_law_682 : decode cL_law 682 = .ok (.iaload, 1) := of_row (r := (682, .iaload, 1)) DL_law_b7 42 rfl
theorem dL_law_683 : decode cL_law 683 = .ok (.aload_n 0, 1) := of_row (r := (683, .aload_n 0, 1)) DL_law_b7 43 rfl
theorem dL_law_684 : decode cL_law 684 = .ok (.iload_n 3, 1) := of_row (r := (684, .iload_n 3, 1)) DL_law_b7 44 rfl
theorem dL_law_685 : decode cL_law 685 = .ok (.iconst 2, 1) := of_row (r := (685, .iconst 2, 1)) DL_law_b7 45 rfl
theorem dL_law_686 : decode cL_law 686 = .ok (.iadd, 1) := of_row (r := (686, .iadd, 1)) DL_law_b7 46 rfl
theorem dL_law_687 : decode cL_law 687 = .ok (.iaload, 1) := of_row (r := (687, .iaload, 1)) DL_law_b7 47 rfl
theorem dL_law_688 : decode cL_law 688 = .ok (.invokevirtual 87, 3) := of_row (r := (688, .invokevirtual 87, 3)) DL_law_b7 48 rfl
theorem dL_law_691 : decode cL_law 691 = .ok (.pop, 1) := of_row (r := (691, .pop, 1)) DL_law_b7 49 rfl
theorem dL_law_692 : decode cL_law 692 = .ok (.goto 184, 3) := of_row (r := (692, .goto 184, 3)) DL_law_b7 50 rfl
theorem dL_law_695 : decode cL_law 695 = .ok (.aload_n 1, 1) := of_row (r := (695, .aload_n 1, 1)) DL_law_b7 51 rfl
theorem dL_law_696 : decode cL_law 696 = .ok (.aload_n 0, 1) := of_row (r := (696, .aload_n 0, 1)) DL_law_b7 52 rfl
theorem dL_law_697 : decode cL_law 697 = .ok (.iload_n 3, 1) := of_row (r := (697, .iload_n 3, 1)) DL_law_b7 53 rfl
theorem dL_law_698 : decode cL_law 698 = .ok (.iconst 1, 1) := of_row (r := (698, .iconst 1, 1)) DL_law_b7 54 rfl
theorem dL_law_699 : decode cL_law 699 = .ok (.iadd, 1) := of_row (r := (699, .iadd, 1)) DL_law_b7 55 rfl
theorem dL_law_700 : decode cL_law 700 = .ok (.iaload, 1) := of_row (r := (700, .iaload, 1)) DL_law_b7 56 rfl
theorem dL_law_701 : decode cL_law 701 = .ok (.aload_n 0, 1) := of_row (r := (701, .aload_n 0, 1)) DL_law_b7 57 rfl
theorem dL_law_702 : decode cL_law 702 = .ok (.iload_n 3, 1) := of_row (r := (702, .iload_n 3, 1)) DL_law_b7 58 rfl
theorem dL_law_703 : decode cL_law 703 = .ok (.iconst 2, 1) := of_row (r := (703, .iconst 2, 1)) DL_law_b7 59 rfl
set_option maxRecDepth 20000 in
theorem DL_law_b8 : ([(704, .iadd, 1), (705, .iaload, 1), (706, .invokevirtual 88, 3), (709, .pop, 1), (710, .aload_n 2, 1), (711, .aload_n 0, 1), (712, .iload_n 3, 1), (713, .iconst 1, 1), (714, .iadd, 1), (715, .iaload, 1), (716, .aload_n 0, 1), (717, .iload_n 3, 1), (718, .iconst 2, 1), (719, .iadd, 1), (720, .iaload, 1), (721, .invokevirtual 91, 3), (724, .pop, 1), (725, .goto 151, 3), (728, .aload_n 1, 1), (729, .aload_n 0, 1), (730, .iload_n 3, 1), (731, .iconst 1, 1), (732, .iadd, 1), (733, .iaload, 1), (734, .aload_n 0, 1), (735, .iload_n 3, 1), (736, .iconst 2, 1), (737, .iadd, 1), (738, .iaload, 1), (739, .invokevirtual 92, 3), (742, .pop, 1), (743, .aload_n 2, 1), (744, .aload_n 0, 1), (745, .iload_n 3, 1), (746, .iconst 1, 1), (747, .iadd, 1), (748, .iaload, 1), (749, .aload_n 0, 1), (750, .iload_n 3, 1), (751, .iconst 2, 1), (752, .iadd, 1), (753, .iaload, 1), (754, .invokevirtual 95, 3), (757, .pop, 1), (758, .goto 118, 3), (761, .aload_n 1, 1), (762, .aload_n 0, 1), (763, .iload_n 3, 1), (764, .iconst 1, 1), (765, .iadd, 1), (766, .iaload, 1), (767, .invokevirtual 96, 3), (770, .pop, 1), (771, .aload_n 2, 1), (772, .aload_n 0, 1), (773, .iload_n 3, 1), (774, .iconst 1, 1), (775, .iadd, 1), (776, .iaload, 1), (777, .invokevirtual 99, 3)] : List (Nat × Instr × Nat)).all (fun r => decide (decode cL_law r.1 = .ok r.2)) = true := by decide +kernel
theorem dL_law_704 : decode cL_law 704 = .ok (.iadd, 1) := of_row (r := (704, .iadd, 1)) DL_law_b8 0 rfl
theorem dL_law_705 : decode cL_law 705 = .ok (.iaload, 1) := of_row (r := (705, .iaload, 1)) DL_law_b8 1 rfl
theorem dL_law_706 : decode cL_law 706 = .ok (.invokevirtual 88, 3) := of_row (r := (706, .invokevirtual 88, 3)) DL_law_b8 2 rfl
theorem dL_law_709 : decode cL_law 709 = .ok (.pop, 1) := of_row (r := (709, .pop, 1)) DL_law_b8 3 rfl
theorem dL_law_710 : decode cL_law 710 = .ok (.aload_n 2, 1) := of_row (r := (710, .aload_n 2, 1)) DL_law_b8 4 rfl
theorem dL_law_711 : decode cL_law 711 = .ok (.aload_n 0, 1) := of_row (r := (711, .aload_n 0, 1)) DL_law_b8 5 rfl
theorem dL_law_712 : decode cL_law 712 = .ok (.iload_n 3, 1) := of_row (r := (712, .iload_n 3, 1)) DL_law_b8 6 rfl
theorem dL_law_713 : decode cL_law 713 = .ok (.iconst 1, 1) := of_row (r := (713, .iconst 1, 1)) DL_law_b8 7 rfl
theorem dL_law_714 : decode cL_law 714 = .ok (.iadd, 1) := of_row (r := (714, .iadd, 1)) DL_law_b8 8 rfl
theorem dL_law_715 : decode cL_law 715 = .ok (.iaload, 1) := of_row (r := (715, .iaload, 1)) DL_law_b8 9 rfl
theorem dL_law_716 : decode cL_law 716 = .ok (.aload_n 0, 1) := of_row (r := (716, .aload_n 0, 1)) DL_law_b8 10 rfl
theorem dL_law_717 : decode cL_law 717 = .ok (.iload_n 3, 1) := of_row (r := (717, .iload_n 3, 1)) DL_law_b8 11 rfl
theorem dL_law_718 : decode cL_law 718 = .ok (.iconst 2, 1) := of_row (r := (718, .iconst 2, 1)) DL_law_b8 12 rfl
theorem dL_law_719 : decode cL_law 719 = .ok (.iadd, 1) := of_row (r := (719, .iadd, 1)) DL_law_b8 13 rfl
theorem dL_law_720 : decode cL_law 720 = .ok (.iaload, 1) := of_row (r := (720, .iaload, 1)) DL_law_b8 14 rfl
theorem dL_law_721 : decode cL_law 721 = .ok (.invokevirtual 91, 3) := of_row (r := (721, .invokevirtual 91, 3)) DL_law_b8 15 rfl
theorem dL_law_724 : decode cL_law 724 = .ok (.pop, 1) := of_row (r := (724, .pop, 1)) DL_law_b8 16 rfl
theorem dL_law_725 : decode cL_law 725 = .ok (.goto 151, 3) := of_row (r := (725, .goto 151, 3)) DL_law_b8 17 rfl
theorem dL_law_728 : decode cL_law 728 = .ok (.aload_n 1, 1) := of_row (r := (728, .aload_n 1, 1)) DL_law_b8 18 rfl
theorem dL_law_729 : decode cL_law 729 = .ok (.aload_n 0, 1) := of_row (r := (729, .aload_n 0, 1)) DL_law_b8 19 rfl
theorem dL_law_730 : decode cL_law 730 = .ok (.iload_n 3, 1) := of_row (r := (730, .iload_n 3, 1)) DL_law_b8 20 rfl
theorem dL_law_731 : decode cL_law 731 = .ok (.iconst 1, 1) := of_row (r := (731, .iconst 1, 1)) DL_law_b8 21 rfl
theorem dL_law_732 : decode cL_law 732 = .ok (.iadd, 1) := of_row (r := (732, .iadd, 1)) DL_law_b8 22 rfl
theorem dL_law_733 : decode cL_law 733 = .ok (.iaload, 1) := of_row (r := (733, .iaload, 1)) DL_law_b8 23 rfl
theorem dL_law_734 : decode cL_law 734 = .ok (.aload_n 0, 1) := of_row (r := (734, .aload_n 0, 1)) DL_law_b8 24 rfl
theorem dL_law_735 : decode cL_law 735 = .ok (.iload_n 3, 1) := of_row (r := (735, .iload_n 3, 1)) DL_law_b8 25 rfl
theorem dL_law_736 : decode cL_law 736 = .ok (.iconst 2, 1) := of_row (r := (736, .iconst 2, 1)) DL_law_b8 26 rfl
theorem dL_law_737 : decode cL_law 737 = .ok (.iadd, 1) := of_row (r := (737, .iadd, 1)) DL_law_b8 27 rfl
theorem dL_law_738 : decode cL_law 738 = .ok (.iaload, 1) := of_row (r := (738, .iaload, 1)) DL_law_b8 28 rfl
theorem dL_law_739 : decode cL_law 739 = .ok (.invokevirtual 92, 3) := of_row (r := (739, .invokevirtual 92, 3)) DL_law_b8 29 rfl
theorem dL_law_742 : decode cL_law 742 = .ok (.pop, 1) := of_row (r := (742, .pop, 1)) DL_law_b8 30 rfl
theorem dL_law_743 : decode cL_law 743 = .ok (.aload_n 2, 1) := of_row (r := (743, .aload_n 2, 1)) DL_law_b8 31 rfl
theorem dL_law_744 : decode cL_law 744 = .ok (.aload_n 0, 1) := of_row (r := (744, .aload_n 0, 1)) DL_law_b8 32 rfl
theorem dL_law_745 : decode cL_law 745 = .ok (.iload_n 3, 1) := of_row (r := (745, .iload_n 3, 1)) DL_law_b8 33 rfl
theorem dL_law_746 : decode cL_law 746 = .ok (.iconst 1, 1) := of_row (r := (746, .iconst 1, 1)) DL_law_b8 34 rfl
theorem dL_law_747 : decode cL_law 747 = .ok (.iadd, 1) := of_row (r := (747, .iadd, 1)) DL_law_b8 35 rfl
theorem dL_law_748 : decode cL_law 748 = .ok (.iaload, 1) := of_row (r := (748, .iaload, 1)) DL_law_b8 36 rfl
theorem dL_law_749 : decode cL_law 749 = .ok (.aload_n 0, 1) := of_row (r := (749, .aload_n 0, 1)) DL_law_b8 37 rfl
theorem dL_law_750 : decode cL_law 750 = .ok (.iload_n 3, 1) := of_row (r := (750, .iload_n 3, 1)) DL_law_b8 38 rfl
theorem dL_law_751 : decode cL_law 751 = .ok (.iconst 2, 1) := of_row (r := (751, .iconst 2, 1)) DL_law_b8 39 rfl
theorem dL_law_752 : decode cL_law 752 = .ok (.iadd, 1) := of_row (r := (752, .iadd, 1)) DL_law_b8 40 rfl
theorem dL_law_753 : decode cL_law 753 = .ok (.iaload, 1) := of_row (r := (753, .iaload, 1)) DL_law_b8 41 rfl
theorem dL_law_754 : decode cL_law 754 = .ok (.invokevirtual 95, 3) := of_row (r := (754, .invokevirtual 95, 3)) DL_law_b8 42 rfl
theorem dL_law_757 : decode cL_law 757 = .ok (.pop, 1) := of_row (r := (757, .pop, 1)) DL_law_b8 43 rfl
theorem dL_law_758 : decode cL_law 758 = .ok (.goto 118, 3) := of_row (r := (758, .goto 118, 3)) DL_law_b8 44 rfl
theorem dL_law_761 : decode cL_law 761 = .ok (.aload_n 1, 1) := of_row (r := (761, .aload_n 1, 1)) DL_law_b8 45 rfl
theorem dL_law_762 : decode cL_law 762 = .ok (.aload_n 0, 1) := of_row (r := (762, .aload_n 0, 1)) DL_law_b8 46 rfl
theorem dL_law_763 : decode cL_law 763 = .ok (.iload_n 3, 1) := of_row (r := (763, .iload_n 3, 1)) DL_law_b8 47 rfl
theorem dL_law_764 : decode cL_law 764 = .ok (.iconst 1, 1) := of_row (r := (764, .iconst 1, 1)) DL_law_b8 48 rfl
theorem dL_law_765 : decode cL_law 765 = .ok (.iadd, 1) := of_row (r := (765, .iadd, 1)) DL_law_b8 49 rfl
theorem dL_law_766 : decode cL_law 766 = .ok (.iaload, 1) := of_row (r := (766, .iaload, 1)) DL_law_b8 50 rfl
theorem dL_law_767 : decode cL_law 767 = .ok (.invokevirtual 96, 3) := of_row (r := (767, .invokevirtual 96, 3)) DL_law_b8 51 rfl
theorem dL_law_770 : decode cL_law 770 = .ok (.pop, 1) := of_row (r := (770, .pop, 1)) DL_law_b8 52 rfl
theorem dL_law_771 : decode cL_law 771 = .ok (.aload_n 2, 1) := of_row (r := (771, .aload_n 2, 1)) DL_law_b8 53 rfl
theorem dL_law_772 : decode cL_law 772 = .ok (.aload_n 0, 1) := of_row (r := (772, .aload_n 0, 1)) DL_law_b8 54 rfl
theorem dL_law_773 : decode cL_law 773 = .ok (.iload_n 3, 1) := of_row (r := (773, .iload_n 3, 1)) DL_law_b8 55 rfl
theorem dL_law_774 : decode cL_law 774 = .ok (.iconst 1, 1) := of_row (r := (774, .iconst 1, 1)) DL_law_b8 56 rfl
theorem dL_law_775 : decode cL_law 775 = .ok (.iadd, 1) := of_row (r := (775, .iadd, 1)) DL_law_b8 57 rfl
theorem dL_law_776 : decode cL_law 776 = .ok (.iaload, 1) := of_row (r := (776, .iaload, 1)) DL_law_b8 58 rfl
theorem dL_law_777 : decode cL_law 777 = .ok (.invokevirtual 99, 3) := of_row (r := (777, .invokevirtual 99, 3)) DL_law_b8 59 rfl
set_option maxRecDepth 20000 in
theorem DL_law_b9 : ([(780, .pop, 1), (781, .goto 95, 3), (784, .aload_n 1, 1), (785, .aload_n 0, 1), (786, .iload_n 3, 1), (787, .iconst 1, 1), (788, .iadd, 1), (789, .iaload, 1), (790, .invokevirtual 100, 3), (793, .pop, 1), (794, .aload_n 2, 1), (795, .aload_n 0, 1), (796, .iload_n 3, 1), (797, .iconst 1, 1), (798, .iadd, 1), (799, .iaload, 1), (800, .invokevirtual 103, 3), (803, .pop, 1), (804, .goto 72, 3), (807, .aload_n 1, 1), (808, .aload_n 0, 1), (809, .iload_n 3, 1), (810, .iconst 1, 1), (811, .iadd, 1), (812, .iaload, 1), (813, .invokevirtual 104, 3), (816, .aload_n 2, 1), (817, .aload_n 0, 1), (818, .iload_n 3, 1), (819, .iconst 1, 1), (820, .iadd, 1), (821, .iaload, 1), (822, .invokevirtual 107, 3), (825, .if_icmp .eq 51, 3), (828, .iconst 0, 1), (829, .ireturn, 1), (830, .aload_n 1, 1), (831, .aload_n 0, 1), (832, .iload_n 3, 1), (833, .iconst 1, 1), (834, .iadd, 1), (835, .iaload, 1), (836, .invokevirtual 108, 3), (839, .pop2, 1), (840, .aload_n 2, 1), (841, .aload_n 0, 1), (842, .iload_n 3, 1), (843, .iconst 1, 1), (844, .iadd, 1), (845, .iaload, 1), (846, .invokevirtual 112, 3), (849, .pop2, 1), (850, .goto 26, 3), (853, .aload_n 1, 1), (854, .aload_n 0, 1), (855, .iload_n 3, 1), (856, .iconst 1, 1), (857, .iadd, 1), (858, .iaload, 1), (859, .invokevirtual 113, 3)] : List (Nat × Instr × Nat)).all (fun r => decide (decode cL_law r.1 = .ok r.2)) = true := by decide +kernel
theorem dL_law_780 : decode cL_law 780 = .ok (.pop, 1) := of_row (r := (780, .pop, 1)) DL_law_b9 0 rfl
theorem dL_law_781 : decode cL_law 781 = .ok (.goto 95, 3) := of_row (r := (781, .goto 95, 3)) DL_law_b9 1 rfl
theorem dL_law_784 : decode cL_law 784 = .ok (.aload_n 1, 1) := of_row (r := (784, .aload_n 1, 1)) DL_law_b9 2 rfl
theorem dL_law_785 : decode cL_law 785 = .ok (.aload_n 0, 1) := of_row (r := (785, .aload_n 0, 1)) DL_law_b9 3 rfl
theorem dL_law_786 : decode cL_law 786 = .ok (.iload_n 3, 1) := of_row (r := (786, .iload_n 3, 1)) DL_law_b9 4 rfl
theorem dL_law_787 : decode cL_law 787 = .ok (.iconst 1, 1) := of_row (r := (787, .iconst 1, 1)) DL_law_b9 5 rfl
theorem dL_law_788 : decode cL_law 788 = .ok (.iadd, 1) := of_row (r := (788, .iadd, 1)) DL_law_b9 6 rfl
theorem dL_law_789 : decode cL_law 789 = .ok (.iaload, 1) := of_row (r := (789, .iaload, 1)) DL_law_b9 7 rfl
theorem dL_law_790 : decode cL_law 790 = .ok (.invokevirtual 100, 3) := of_row (r := (790, .invokevirtual 100, 3)) DL_law_b9 8 rfl
theorem dL_law_793 : decode cL_law 793 = .ok (.pop, 1) := of_row (r := (793, .pop, 1)) DL_law_b9 9 rfl
theorem dL_law_794 : decode cL_law 794 = .ok (.aload_n 2, 1) := of_row (r := (794, .aload_n 2, 1)) DL_law_b9 10 rfl
theorem dL_law_795 : decode cL_law 795 = .ok (.aload_n 0, 1) := of_row (r := (795, .aload_n 0, 1)) DL_law_b9 11 rfl
theorem dL_law_796 : decode cL_law 796 = .ok (.iload_n 3, 1) := of_row (r := (796, .iload_n 3, 1)) DL_law_b9 12 rfl
theorem dL_law_797 : decode cL_law 797 = .ok (.iconst 1, 1) := of_row (r := (797, .iconst 1, 1)) DL_law_b9 13 rfl
theorem dL_law_798 : decode cL_law 798 = .ok (.iadd, 1) := of_row (r := (798, .iadd, 1)) DL_law_b9 14 rfl
theorem dL_law_799 : decode cL_law 799 = .ok (.iaload, 1) := of_row (r := (799, .iaload, 1)) DL_law_b9 15 rfl
theorem dL_law_800 : decode cL_law 800 = .ok (.invokevirtual 103, 3) := of_row (r := (800, .invokevirtual 103, 3)) DL_law_b9 16 rfl
theorem dL_law_803 : decode cL_law 803 = .ok (.pop, 1) := of_row (r := (803, .pop, 1)) DL_law_b9 17 rfl
theorem dL_law_804 : decode cL_law 804 = .ok (.goto 72, 3) := of_row (r := (804, .goto 72, 3)) DL_law_b9 18 rfl
theorem dL_law_807 : decode cL_law 807 = .ok (.aload_n 1, 1) := of_row (r := (807, .aload_n 1, 1)) DL_law_b9 19 rfl
theorem dL_law_808 : decode cL_law 808 = .ok (.aload_n 0, 1) := of_row (r := (808, .aload_n 0, 1)) DL_law_b9 20 rfl
theorem dL_law_809 : decode cL_law 809 = .ok (.iload_n 3, 1) := of_row (r := (809, .iload_n 3, 1)) DL_law_b9 21 rfl
theorem dL_law_810 : decode cL_law 810 = .ok (.iconst 1, 1) := of_row (r := (810, .iconst 1, 1)) DL_law_b9 22 rfl
theorem dL_law_811 : decode cL_law 811 = .ok (.iadd, 1) := of_row (r := (811, .iadd, 1)) DL_law_b9 23 rfl
theorem dL_law_812 : decode cL_law 812 = .ok (.iaload, 1) := of_row (r := (812, .iaload, 1)) DL_law_b9 24 rfl
theorem dL_law_813 : decode cL_law 813 = .ok (.invokevirtual 104, 3) := of_row (r := (813, .invokevirtual 104, 3)) DL_law_b9 25 rfl
theorem dL_law_816 : decode cL_law 816 = .ok (.aload_n 2, 1) := of_row (r := (816, .aload_n 2, 1)) DL_law_b9 26 rfl
theorem dL_law_817 : decode cL_law 817 = .ok (.aload_n 0, 1) := of_row (r := (817, .aload_n 0, 1)) DL_law_b9 27 rfl
theorem dL_law_818 : decode cL_law 818 = .ok (.iload_n 3, 1) := of_row (r := (818, .iload_n 3, 1)) DL_law_b9 28 rfl
theorem dL_law_819 : decode cL_law 819 = .ok (.iconst 1, 1) := of_row (r := (819, .iconst 1, 1)) DL_law_b9 29 rfl
theorem dL_law_820 : decode cL_law 820 = .ok (.iadd, 1) := of_row (r := (820, .iadd, 1)) DL_law_b9 30 rfl
theorem dL_law_821 : decode cL_law 821 = .ok (.iaload, 1) := of_row (r := (821, .iaload, 1)) DL_law_b9 31 rfl
theorem dL_law_822 : decode cL_law 822 = .ok (.invokevirtual 107, 3) := of_row (r := (822, .invokevirtual 107, 3)) DL_law_b9 32 rfl
theorem dL_law_825 : decode cL_law 825 = .ok (.if_icmp .eq 51, 3) := of_row (r := (825, .if_icmp .eq 51, 3)) DL_law_b9 33 rfl
theorem dL_law_828 : decode cL_law 828 = .ok (.iconst 0, 1) := of_row (r := (828, .iconst 0, 1)) DL_law_b9 34 rfl
theorem dL_law_829 : decode cL_law 829 = .ok (.ireturn, 1) := of_row (r := (829, .ireturn, 1)) DL_law_b9 35 rfl
theorem dL_law_830 : decode cL_law 830 = .ok (.aload_n 1, 1) := of_row (r := (830, .aload_n 1, 1)) DL_law_b9 36 rfl
theorem dL_law_831 : decode cL_law 831 = .ok (.aload_n 0, 1) := of_row (r := (831, .aload_n 0, 1)) DL_law_b9 37 rfl
theorem dL_law_832 : decode cL_law 832 = .ok (.iload_n 3, 1) := of_row (r := (832, .iload_n 3, 1)) DL_law_b9 38 rfl
theorem dL_law_833 : decode cL_law 833 = .ok (.iconst 1, 1) := of_row (r := (833, .iconst 1, 1)) DL_law_b9 39 rfl
theorem dL_law_834 : decode cL_law 834 = .ok (.iadd, 1) := of_row (r := (834, .iadd, 1)) DL_law_b9 40 rfl
theorem dL_law_835 : decode cL_law 835 = .ok (.iaload, 1) := of_row (r := (835, .iaload, 1)) DL_law_b9 41 rfl
theorem dL_law_836 : decode cL_law 836 = .ok (.invokevirtual 108, 3) := of_row (r := (836, .invokevirtual 108, 3)) DL_law_b9 42 rfl
theorem dL_law_839 : decode cL_law 839 = .ok (.pop2, 1) := of_row (r := (839, .pop2, 1)) DL_law_b9 43 rfl
theorem dL_law_840 : decode cL_law 840 = .ok (.aload_n 2, 1) := of_row (r := (840, .aload_n 2, 1)) DL_law_b9 44 rfl
theorem dL_law_841 : decode cL_law 841 = .ok (.aload_n 0, 1) := of_row (r := (841, .aload_n 0, 1)) DL_law_b9 45 rfl
theorem dL_law_842 : decode cL_law 842 = .ok (.iload_n 3, 1) := of_row (r := (842, .iload_n 3, 1)) DL_law_b9 46 rfl
theorem dL_law_843 : decode cL_law 843 = .ok (.iconst 1, 1) := of_row (r := (843, .iconst 1, 1)) DL_law_b9 47 rfl
theorem dL_law_844 : decode cL_law 844 = .ok (.iadd, 1) := of_row (r := (844, .iadd, 1)) DL_law_b9 48 rfl
theorem dL_law_845 : decode cL_law 845 = .ok (.iaload, 1) := of_row (r := (845, .iaload, 1)) DL_law_b9 49 rfl
theorem dL_law_846 : decode cL_law 846 = .ok (.invokevirtual 112, 3) := of_row (r := (846, .invokevirtual 112, 3)) DL_law_b9 50 rfl
theorem dL_law_849 : decode cL_law 849 = .ok (.pop2, 1) := of_row (r := (849, .pop2, 1)) DL_law_b9 51 rfl
theorem dL_law_850 : decode cL_law 850 = .ok (.goto 26, 3) := of_row (r := (850, .goto 26, 3)) DL_law_b9 52 rfl
theorem dL_law_853 : decode cL_law 853 = .ok (.aload_n 1, 1) := of_row (r := (853, .aload_n 1, 1)) DL_law_b9 53 rfl
theorem dL_law_854 : decode cL_law 854 = .ok (.aload_n 0, 1) := of_row (r := (854, .aload_n 0, 1)) DL_law_b9 54 rfl
theorem dL_law_855 : decode cL_law 855 = .ok (.iload_n 3, 1) := of_row (r := (855, .iload_n 3, 1)) DL_law_b9 55 rfl
theorem dL_law_856 : decode cL_law 856 = .ok (.iconst 1, 1) := of_row (r := (856, .iconst 1, 1)) DL_law_b9 56 rfl
theorem dL_law_857 : decode cL_law 857 = .ok (.iadd, 1) := of_row (r := (857, .iadd, 1)) DL_law_b9 57 rfl
theorem dL_law_858 : decode cL_law 858 = .ok (.iaload, 1) := of_row (r := (858, .iaload, 1)) DL_law_b9 58 rfl
theorem dL_law_859 : decode cL_law 859 = .ok (.invokevirtual 113, 3) := of_row (r := (859, .invokevirtual 113, 3)) DL_law_b9 59 rfl
set_option maxRecDepth 20000 in
theorem DL_law_b10 : ([(862, .pop, 1), (863, .aload_n 2, 1), (864, .aload_n 0, 1), (865, .iload_n 3, 1), (866, .iconst 1, 1), (867, .iadd, 1), (868, .iaload, 1), (869, .invokevirtual 116, 3), (872, .pop, 1), (873, .goto 3, 3), (876, .iinc 3 6, 3), (879, .goto (-861), 3), (882, .iconst 1, 1), (883, .ireturn, 1)] : List (Nat × Instr × Nat)).all (fun r => decide (decode cL_law r.1 = .ok r.2)) = true := by decide +kernel
theorem dL_law_862 : decode cL_law 862 = .ok (.pop, 1) := of_row (r := (862, .pop, 1)) DL_law_b10 0 rfl
theorem dL_law_863 : decode cL_law 863 = .ok (.aload_n 2, 1) := of_row (r := (863, .aload_n 2, 1)) DL_law_b10 1 rfl
theorem dL_law_864 : decode cL_law 864 = .ok (.aload_n 0, 1) := of_row (r := (864, .aload_n 0, 1)) DL_law_b10 2 rfl
theorem dL_law_865 : decode cL_law 865 = .ok (.iload_n 3, 1) := of_row (r := (865, .iload_n 3, 1)) DL_law_b10 3 rfl
theorem dL_law_866 : decode cL_law 866 = .ok (.iconst 1, 1) := of_row (r := (866, .iconst 1, 1)) DL_law_b10 4 rfl
theorem dL_law_867 : decode cL_law 867 = .ok (.iadd, 1) := of_row (r := (867, .iadd, 1)) DL_law_b10 5 rfl
theorem dL_law_868 : decode cL_law 868 = .ok (.iaload, 1) := of_row (r := (868, .iaload, 1)) DL_law_b10 6 rfl
theorem dL_law_869 : decode cL_law 869 = .ok (.invokevirtual 116, 3) := of_row (r := (869, .invokevirtual 116, 3)) DL_law_b10 7 rfl
theorem dL_law_872 : decode cL_law 872 = .ok (.pop, 1) := of_row (r := (872, .pop, 1)) DL_law_b10 8 rfl
theorem dL_law_873 : decode cL_law 873 = .ok (.goto 3, 3) := of_row (r := (873, .goto 3, 3)) DL_law_b10 9 rfl
theorem dL_law_876 : decode cL_law 876 = .ok (.iinc 3 6, 3) := of_row (r := (876, .iinc 3 6, 3)) DL_law_b10 10 rfl
theorem dL_law_879 : decode cL_law 879 = .ok (.goto (-861), 3) := of_row (r := (879, .goto (-861), 3)) DL_law_b10 11 rfl
theorem dL_law_882 : decode cL_law 882 = .ok (.iconst 1, 1) := of_row (r := (882, .iconst 1, 1)) DL_law_b10 12 rfl
theorem dL_law_883 : decode cL_law 883 = .ok (.ireturn, 1) := of_row (r := (883, .ireturn, 1)) DL_law_b10 13 rfl
