theorem dX7_owedOf_24 : decode cX7_owedOf 24 = .ok (.getfield 59, 3) := of_row (r := (24, .getfield 59, 3)) DX7_owedOf_b0 16 rfl
theorem dX7_owedOf_27 : decode cX7_owedOf 27 = .ok (.iload_n 3, 1) := of_row (r := (27, .iload_n 3, 1)) DX7_owedOf_b0 17 rfl
theorem dX7_owedOf_28 : decode cX7_owedOf 28 = .ok (.iaload, 1) := of_row (r := (28, .iaload, 1)) DX7_owedOf_b0 18 rfl
theorem dX7_owedOf_29 : decode cX7_owedOf 29 = .ok (.ifCond .le 7, 3) := of_row (r := (29, .ifCond .le 7, 3)) DX7_owedOf_b0 19 rfl
theorem dX7_owedOf_32 : decode cX7_owedOf 32 = .ok (.iconst 1, 1) := of_row (r := (32, .iconst 1, 1)) DX7_owedOf_b0 20 rfl
theorem dX7_owedOf_33 : decode cX7_owedOf 33 = .ok (.goto 4, 3) := of_row (r := (33, .goto 4, 3)) DX7_owedOf_b0 21 rfl
theorem dX7_owedOf_36 : decode cX7_owedOf 36 = .ok (.iconst 0, 1) := of_row (r := (36, .iconst 0, 1)) DX7_owedOf_b0 22 rfl
theorem dX7_owedOf_37 : decode cX7_owedOf 37 = .ok (.iadd, 1) := of_row (r := (37, .iadd, 1)) DX7_owedOf_b0 23 rfl
theorem dX7_owedOf_38 : decode cX7_owedOf 38 = .ok (.istore_n 2, 1) := of_row (r := (38, .istore_n 2, 1)) DX7_owedOf_b0 24 rfl
theorem dX7_owedOf_39 : decode cX7_owedOf 39 = .ok (.iinc 3 1, 3) := of_row (r := (39, .iinc 3 1, 3)) DX7_owedOf_b0 25 rfl
theorem dX7_owedOf_42 : decode cX7_owedOf 42 = .ok (.goto (-38), 3) := of_row (r := (42, .goto (-38), 3)) DX7_owedOf_b0 26 rfl
theorem dX7_owedOf_45 : decode cX7_owedOf 45 = .ok (.iload_n 2, 1) := of_row (r := (45, .iload_n 2, 1)) DX7_owedOf_b0 27 rfl
theorem dX7_owedOf_46 : decode cX7_owedOf 46 = .ok (.ireturn, 1) := of_row (r := (46, .ireturn, 1)) DX7_owedOf_b0 28 rfl
set_option maxRecDepth 20000 in
theorem DX7_worth_b0 : ([(0, .iload_n 1, 1), (1, .tableswitch 130 111 119 #[51, 59, 70, 83, 91, 93, 99, 107, 127], 51), (52, .aload_n 0, 1), (53, .getfield 59, 3), (56, .iload_n 2, 1), (57, .iaload, 1), (58, .i2l, 1), (59, .lreturn, 1), (60, .aload_n 0, 1), (61, .aload_n 0, 1), (62, .getfield 50, 3), (65, .iload_n 2, 1), (66, .iaload, 1), (67, .invokevirtual 289, 3), (70, .lreturn, 1), (71, .aload_n 0, 1), (72, .getfield 267, 3), (75, .aload_n 0, 1), (76, .getfield 62, 3), (79, .iload_n 2, 1), (80, .iaload, 1), (81, .isub, 1), (82, .i2l, 1), (83, .lreturn, 1), (84, .aload_n 0, 1), (85, .getfield 53, 3), (88, .iload_n 2, 1), (89, .iaload, 1), (90, .i2l, 1), (91, .lreturn, 1), (92, .lload_n 3, 1), (93, .lreturn, 1), (94, .aload_n 0, 1), (95, .getfield 267, 3), (98, .i2l, 1), (99, .lreturn, 1), (100, .aload_n 0, 1), (101, .getfield 267, 3), (104, .iconst 2, 1), (105, .idiv, 1), (106, .i2l, 1), (107, .lreturn, 1), (108, .aload_n 0, 1), (109, .getfield 75, 3), (112, .aload_n 0, 1), (113, .getfield 50, 3), (116, .iload_n 2, 1), (117, .iaload, 1), (118, .baload, 1), (119, .ifCond .eq 7, 3), (122, .lconst 1, 1), (123, .goto 4, 3), (126, .lconst 0, 1), (127, .lreturn, 1), (128, .lload 5, 2), (130, .lreturn, 1), (131, .aload_n 0, 1), (132, .getfield 65, 3), (135, .iload_n 2, 1), (136, .iaload, 1)] : List (Nat × Instr × Nat)).all (fun r => decide (decode cX7_worth r.1 = .ok r.2)) = true := by decide +kernel
theorem dX7_worth_0 : decode cX7_worth 0 = .ok (.iload_n 1, 1) := of_row (r := (0, .iload_n 1, 1)) DX7_worth_b0 0 rfl
theorem dX7_worth_1 : decode cX7_worth 1 = .ok (.tableswitch 130 111 119 #[51, 59, 70, 83, 91, 93, 99, 107, 127], 51) := of_row (r := (1, .tableswitch 130 111 119 #[51, 59, 70, 83, 91, 93, 99, 107, 127], 51)) DX7_worth_b0 1 rfl
theorem dX7_worth_52 : decode cX7_worth 52 = .ok (.aload_n 0, 1) := of_row (r := (52, .aload_n 0, 1)) DX7_worth_b0 2 rfl
theorem dX7_worth_53 : decode cX7_worth 53 = .ok (.getfield 59, 3) := of_row (r := (53, .getfield 59, 3)) DX7_worth_b0 3 rfl
theorem dX7_worth_56 : decode cX7_worth 56 = .ok (.iload_n 2, 1) := of_row (r := (56, .iload_n 2, 1)) DX7_worth_b0 4 rfl
theorem dX7_worth_57 : decode cX7_worth 57 = .ok (.iaload, 1) := of_row (r := (57, .iaload, 1)) DX7_worth_b0 5 rfl
theorem dX7_worth_58 : decode cX7_worth 58 = .ok (.i2l, 1) := of_row (r := (58, .i2l, 1)) DX7_worth_b0 6 rfl
theorem dX7_worth_59 : decode cX7_worth 59 = .ok (.lreturn, 1) := of_row (r := (59, .lreturn, 1)) DX7_worth_b0 7 rfl
theorem dX7_worth_60 : decode cX7_worth 60 = .ok (.aload_n 0, 1) := of_row (r := (60, .aload_n 0, 1)) DX7_worth_b0 8 rfl
theorem dX7_worth_61 : decode cX7_worth 61 = .ok (.aload_n 0, 1) := of_row (r := (61, .aload_n 0, 1)) DX7_worth_b0 9 rfl
theorem dX7_worth_62 : decode cX7_worth 62 = .ok (.getfield 50, 3) := of_row (r := (62, .getfield 50, 3)) DX7_worth_b0 10 rfl
theorem dX7_worth_65 : decode cX7_worth 65 = .ok (.iload_n 2, 1) := of_row (r := (65, .iload_n 2, 1)) DX7_worth_b0 11 rfl
theorem dX7_worth_66 : decode cX7_worth 66 = .ok (.iaload, 1) := of_row (r := (66, .iaload, 1)) DX7_worth_b0 12 rfl
theorem dX7_worth_67 : decode cX7_worth 67 = .ok (.invokevirtual 289, 3) := of_row (r := (67, .invokevirtual 289, 3)) DX7_worth_b0 13 rfl
theorem dX7_worth_70 : decode cX7_worth 70 = .ok (.lreturn, 1) := of_row (r := (70, .lreturn, 1)) DX7_worth_b0 14 rfl
theorem dX7_worth_71 : decode cX7_worth 71 = .ok (.aload_n 0, 1) := of_row (r := (71, .aload_n 0, 1)) DX7_worth_b0 15 rfl
theorem dX7_worth_72 : decode cX7_worth 72 = .ok (.getfield 267, 3) := of_row (r := (72, .getfield 267, 3)) DX7_worth_b0 16 rfl
theorem dX7_worth_75 : decode cX7_worth 75 = .ok (.aload_n 0, 1) := of_row (r := (75, .aload_n 0, 1)) DX7_worth_b0 17 rfl
theorem dX7_worth_76 : decode cX7_worth 76 = .ok (.getfield 62, 3) := of_row (r := (76, .getfield 62, 3)) DX7_worth_b0 18 rfl
theorem dX7_worth_79 : decode cX7_worth 79 = .ok (.iload_n 2, 1) := of_row (r := (79, .iload_n 2, 1)) DX7_worth_b0 19 rfl
theorem dX7_worth_80 : decode cX7_worth 80 = .ok (.iaload, 1) := of_row (r := (80, .iaload, 1)) DX7_worth_b0 20 rfl
theorem dX7_worth_81 : decode cX7_worth 81 = .ok (.isub, 1) := of_row (r := (81, .isub, 1)) DX7_worth_b0 21 rfl
theorem dX7_worth_82 : decode cX7_worth 82 = .ok (.i2l, 1) := of_row (r := (82, .i2l, 1)) DX7_worth_b0 22 rfl
theorem dX7_worth_83 : decode cX7_worth 83 = .ok (.lreturn, 1) := of_row (r := (83, .lreturn, 1)) DX7_worth_b0 23 rfl
theorem dX7_worth_84 : decode cX7_worth 84 = .ok (.aload_n 0, 1) := of_row (r := (84, .aload_n 0, 1)) DX7_worth_b0 24 rfl
theorem dX7_worth_85 : decode cX7_worth 85 = .ok (.getfield 53, 3) := of_row (r := (85, .getfield 53, 3)) DX7_worth_b0 25 rfl
theorem dX7_worth_88 : decode cX7_worth 88 = .ok (.iload_n 2, 1) := of_row (r := (88, .iload_n 2, 1)) DX7_worth_b0 26 rfl
theorem dX7_worth_89 : decode cX7_worth 89 = .ok (.iaload, 1) := of_row (r := (89, .iaload, 1)) DX7_worth_b0 27 rfl
theorem dX7_worth_90 : decode cX7_worth 90 = .ok (.i2l, 1) := of_row (r := (90, .i2l, 1)) DX7_worth_b0 28 rfl
theorem dX7_worth_91 : decode cX7_worth 91 = .ok (.lreturn, 1) := of_row (r := (91, .lreturn, 1)) DX7_worth_b0 29 rfl
theorem dX7_worth_92 : decode cX7_worth 92 = .ok (.lload_n 3, 1) := of_row (r := (92, .lload_n 3, 1)) DX7_worth_b0 30 rfl
theorem dX7_worth_93 : decode cX7_worth 93 = .ok (.lreturn, 1) := of_row (r := (93, .lreturn, 1)) DX7_worth_b0 31 rfl
theorem dX7_worth_94 : decode cX7_worth 94 = .ok (.aload_n 0, 1) := of_row (r := (94, .aload_n 0, 1)) DX7_worth_b0 32 rfl
theorem dX7_worth_95 : decode cX7_worth 95 = .ok (.getfield 267, 3) := of_row (r := (95, .getfield 267, 3)) DX7_worth_b0 33 rfl
theorem dX7_worth_98 : decode cX7_worth 98 = .ok (.i2l, 1) := of_row (r := (98, .i2l, 1)) DX7_worth_b0 34 rfl
theorem dX7_worth_99 : decode cX7_worth 99 = .ok (.lreturn, 1) := of_row (r := (99, .lreturn, 1)) DX7_worth_b0 35 rfl
theorem dX7_worth_100 : decode cX7_worth 100 = .ok (.aload_n 0, 1) := of_row (r := (100, .aload_n 0, 1)) DX7_worth_b0 36 rfl
theorem dX7_worth_101 : decode cX7_worth 101 = .ok (.getfield 267, 3) := of_row (r := (101, .getfield 267, 3)) DX7_worth_b0 37 rfl
theorem dX7_worth_104 : decode cX7_worth 104 = .ok (.iconst 2, 1) := of_row (r := (104, .iconst 2, 1)) DX7_worth_b0 38 rfl
theorem dX7_worth_105 : decode cX7_worth 105 = .ok (.idiv, 1) := of_row (r := (105, .idiv, 1)) DX7_worth_b0 39 rfl
theorem dX7_worth_106 : decode cX7_worth 106 = .ok (.i2l, 1) := of_row (r := (106, .i2l, 1)) DX7_worth_b0 40 rfl
theorem dX7_worth_107 : decode cX7_worth 107 = .ok (.lreturn, 1) := of_row (r := (107, .lreturn, 1)) DX7_worth_b0 41 rfl
theorem dX7_worth_108 : decode cX7_worth 108 = .ok (.aload_n 0, 1) := of_row (r := (108, .aload_n 0, 1)) DX7_worth_b0 42 rfl
theorem dX7_worth_109 : decode cX7_worth 109 = .ok (.getfield 75, 3) := of_row (r := (109, .getfield 75, 3)) DX7_worth_b0 43 rfl
theorem dX7_worth_112 : decode cX7_worth 112 = .ok (.aload_n 0, 1) := of_row (r := (112, .aload_n 0, 1)) DX7_worth_b0 44 rfl
theorem dX7_worth_113 : decode cX7_worth 113 = .ok (.getfield 50, 3) := of_row (r := (113, .getfield 50, 3)) DX7_worth_b0 45 rfl
theorem dX7_worth_116 : decode cX7_worth 116 = .ok (.iload_n 2, 1) := of_row (r := (116, .iload_n 2, 1)) DX7_worth_b0 46 rfl
theorem dX7_worth_117 : decode cX7_worth 117 = .ok (.iaload, 1) := of_row (r := (117, .iaload, 1)) DX7_worth_b0 47 rfl
theorem dX7_worth_118 : decode cX7_worth 118 = .ok (.baload, 1) := of_row (r := (118, .baload, 1)) DX7_worth_b0 48 rfl
theorem dX7_worth_119 : decode cX7_worth 119 = .ok (.ifCond .eq 7, 3) := of_row (r := (119, .ifCond .eq 7, 3)) DX7_worth_b0 49 rfl
theorem dX7_worth_122 : decode cX7_worth 122 = .ok (.lconst 1, 1) := of_row (r := (122, .lconst 1, 1)) DX7_worth_b0 50 rfl
theorem dX7_worth_123 : decode cX7_worth 123 = .ok (.goto 4, 3) := of_row (r := (123, .goto 4, 3)) DX7_worth_b0 51 rfl
theorem dX7_worth_126 : decode cX7_worth 126 = .ok (.lconst 0, 1) := of_row (r := (126, .lconst 0, 1)) DX7_worth_b0 52 rfl
theorem dX7_worth_127 : decode cX7_worth 127 = .ok (.lreturn, 1) := of_row (r := (127, .lreturn, 1)) DX7_worth_b0 53 rfl
theorem dX7_worth_128 : decode cX7_worth 128 = .ok (.lload 5, 2) := of_row (r := (128, .lload 5, 2)) DX7_worth_b0 54 rfl
theorem dX7_worth_130 : decode cX7_worth 130 = .ok (.lreturn, 1) := of_row (r := (130, .lreturn, 1)) DX7_worth_b0 55 rfl
theorem dX7_worth_131 : decode cX7_worth 131 = .ok (.aload_n 0, 1) := of_row (r := (131, .aload_n 0, 1)) DX7_worth_b0 56 rfl
theorem dX7_worth_132 : decode cX7_worth 132 = .ok (.getfield 65, 3) := of_row (r := (132, .getfield 65, 3)) DX7_worth_b0 57 rfl
theorem dX7_worth_135 : decode cX7_worth 135 = .ok (.iload_n 2, 1) := of_row (r := (135, .iload_n 2, 1)) DX7_worth_b0 58 rfl
theorem dX7_worth_136 : decode cX7_worth 136 = .ok (.iaload, 1) := of_row (r := (136, .iaload, 1)) DX7_worth_b0 59 rfl
set_option maxRecDepth 20000 in
theorem DX7_worth_b1 : ([(137, .ifCond .lt 7, 3), (140, .lconst 1, 1), (141, .goto 4, 3), (144, .lconst 0, 1), (145, .lreturn, 1)] : List (Nat × Instr × Nat)).all (fun r => decide (decode cX7_worth r.1 = .ok r.2)) = true := by decide +kernel
theorem dX7_worth_137 : decode cX7_worth 137 = .ok (.ifCond .lt 7, 3) := of_row (r := (137, .ifCond .lt 7, 3)) DX7_worth_b1 0 rfl
theorem dX7_worth_140 : decode cX7_worth 140 = .ok (.lconst 1, 1) := of_row (r := (140, .lconst 1, 1)) DX7_worth_b1 1 rfl
theorem dX7_worth_141 : decode cX7_worth 141 = .ok (.goto 4, 3) := of_row (r := (141, .goto 4, 3)) DX7_worth_b1 2 rfl
theorem dX7_worth_144 : decode cX7_worth 144 = .ok (.lconst 0, 1) := of_row (r := (144, .lconst 0, 1)) DX7_worth_b1 3 rfl
theorem dX7_worth_145 : decode cX7_worth 145 = .ok (.lreturn, 1) := of_row (r := (145, .lreturn, 1)) DX7_worth_b1 4 rfl
set_option maxRecDepth 20000 in
theorem DX7_both_b0 : ([(0, .iload_n 0, 1), (1, .tableswitch 123 3 9 #[43, 61, 79, 91, 103, 115, 119], 43), (44, .lload_n 1, 1), (45, .lconst 0, 1), (46, .lcmp, 1), (47, .ifCond .eq 13, 3), (50, .lload_n 3, 1), (51, .lconst 0, 1), (52, .lcmp, 1), (53, .ifCond .eq 7, 3), (56, .lconst 1, 1), (57, .goto 4, 3), (60, .lconst 0, 1), (61, .lreturn, 1), (62, .lload_n 1, 1), (63, .lconst 0, 1), (64, .lcmp, 1), (65, .ifCond .ne 9, 3), (68, .lload_n 3, 1), (69, .lconst 0, 1), (70, .lcmp, 1), (71, .ifCond .eq 7, 3), (74, .lconst 1, 1), (75, .goto 4, 3), (78, .lconst 0, 1), (79, .lreturn, 1), (80, .lload_n 1, 1), (81, .lload_n 3, 1), (82, .lcmp, 1), (83, .ifCond .ge 7, 3), (86, .lconst 1, 1), (87, .goto 4, 3), (90, .lconst 0, 1), (91, .lreturn, 1), (92, .lload_n 1, 1), (93, .lload_n 3, 1), (94, .lcmp, 1), (95, .ifCond .ne 7, 3), (98, .lconst 1, 1), (99, .goto 4, 3), (102, .lconst 0, 1), (103, .lreturn, 1), (104, .lload_n 1, 1), (105, .lload_n 3, 1), (106, .lcmp, 1), (107, .ifCond .le 7, 3), (110, .lconst 1, 1), (111, .goto 4, 3), (114, .lconst 0, 1), (115, .lreturn, 1), (116, .lload_n 1, 1), (117, .lload_n 3, 1), (118, .ladd, 1), (119, .lreturn, 1), (120, .lload_n 1, 1), (121, .lload_n 3, 1), (122, .lsub, 1), (123, .lreturn, 1), (124, .lload_n 1, 1), (125, .lload_n 3, 1)] : List (Nat × Instr × Nat)).all (fun r => decide (decode cX7_both r.1 = .ok r.2)) = true := by decide +kernel
theorem dX7_both_0 : decode cX7_both 0 = .ok (.iload_n 0, 1) := of_row (r := (0, .iload_n 0, 1)) DX7_both_b0 0 rfl
theorem dX7_both_1 : decode cX7_both 1 = .ok (.tableswitch 123 3 9 #[43, 61, 79, 91, 103, 115, 119], 43) := of_row (r := (1, .tableswitch 123 3 9 #[43, 61, 79, 91, 103, 115, 119], 43)) DX7_both_b0 1 rfl
theorem dX7_both_44 : decode cX7_both 44 = .ok (.lload_n 1, 1) := of_row (r := (44, .lload_n 1, 1)) DX7_both_b0 2 rfl
theorem dX7_both_45 : decode cX7_both 45 = .ok (.lconst 0, 1) := of_row (r := (45, .lconst 0, 1)) DX7_both_b0 3 rfl
theorem dX7_both_46 : decode cX7_both 46 = .ok (.lcmp, 1) := of_row (r := (46, .lcmp, 1)) DX7_both_b0 4 rfl
theorem dX7_both_47 : decode cX7_both 47 = .ok (.ifCond .eq 13, 3) := of_row (r := (47, .ifCond .eq 13, 3)) DX7_both_b0 5 rfl
theorem dX7_both_50 : decode cX7_both 50 = .ok (.lload_n 3, 1) := of_row (r := (50, .lload_n 3, 1)) DX7_both_b0 6 rfl
theorem dX7_both_51 : decode cX7_both 51 = .ok (.lconst 0, 1) := of_row (r := (51, .lconst 0, 1)) DX7_both_b0 7 rfl
theorem dX7_both_52 : decode cX7_both 52 = .ok (.lcmp, 1) := of_row (r := (52, .lcmp, 1)) DX7_both_b0 8 rfl
theorem dX7_both_53 : decode cX7_both 53 = .ok (.ifCond .eq 7, 3) := of_row (r := (53, .ifCond .eq 7, 3)) DX7_both_b0 9 rfl
theorem dX7_both_56 : decode cX7_both 56 = .ok (.lconst 1, 1) := of_row (r := (56, .lconst 1, 1)) DX7_both_b0 10 rfl
theorem dX7_both_57 : decode cX7_both 57 = .ok (.goto 4, 3) := of_row (r := (57, .goto 4, 3)) DX7_both_b0 11 rfl
theorem dX7_both_60 : decode cX7_both 60 = .ok (.lconst 0, 1) := of_row (r := (60, .lconst 0, 1)) DX7_both_b0 12 rfl
theorem dX7_both_61 : decode cX7_both 61 = .ok (.lreturn, 1) := of_row (r := (61, .lreturn, 1)) DX7_both_b0 13 rfl
theorem dX7_both_62 : decode cX7_both 62 = .ok (.lload_n 1, 1) := of_row (r := (62, .lload_n 1, 1)) DX7_both_b0 14 rfl
theorem dX7_both_63 : decode cX7_both 63 = .ok (.lconst 0, 1) := of_row (r := (63, .lconst 0, 1)) DX7_both_b0 15 rfl
theorem dX7_both_64 : decode cX7_both 64 = .ok (.lcmp, 1) := of_row (r := (64, .lcmp, 1)) DX7_both_b0 16 rfl
theorem dX7_both_65 : decode cX7_both 65 = .ok (.ifCond .ne 9, 3) := of_row (r := (65, .ifCond .ne 9, 3)) DX7_both_b0 17 rfl
theorem dX7_both_68 : decode cX7_both 68 = .ok (.lload_n 3, 1) := of_row (r := (68, .lload_n 3, 1)) DX7_both_b0 18 rfl
theorem dX7_both_69 : decode cX7_both 69 = .ok (.lconst 0, 1) := of_row (r := (69, .lconst 0, 1)) DX7_both_b0 19 rfl
theorem dX7_both_70 : decode cX7_both 70 = .ok (.lcmp, 1) := of_row (r := (70, .lcmp, 1)) DX7_both_b0 20 rfl
theorem dX7_both_71 : decode cX7_both 71 = .ok (.ifCond .eq 7, 3) := of_row (r := (71, .ifCond .eq 7, 3)) DX7_both_b0 21 rfl
theorem dX7_both_74 : decode cX7_both 74 = .ok (.lconst 1, 1) := of_row (r := (74, .lconst 1, 1)) DX7_both_b0 22 rfl
theorem dX7_both_75 : decode cX7_both 75 = .ok (.goto 4, 3) := of_row (r := (75, .goto 4, 3)) DX7_both_b0 23 rfl
theorem dX7_both_78 : decode cX7_both 78 = .ok (.lconst 0, 1) := of_row (r := (78, .lconst 0, 1)) DX7_both_b0 24 rfl
theorem dX7_both_79 : decode cX7_both 79 = .ok (.lreturn, 1) := of_row (r := (79, .lreturn, 1)) DX7_both_b0 25 rfl
theorem dX7_both_80 : decode cX7_both 80 = .ok (.lload_n 1, 1) := of_row (r := (80, .lload_n 1, 1)) DX7_both_b0 26 rfl
theorem dX7_both_81 : decode cX7_both 81 = .ok (.lload_n 3, 1) := of_row (r := (81, .lload_n 3, 1)) DX7_both_b0 27 rfl
theorem dX7_both_82 : decode cX7_both 82 = .ok (.lcmp, 1) := of_row (r := (82, .lcmp, 1)) DX7_both_b0 28 rfl
theorem dX7_both_83 : decode cX7_both 83 = .ok (.ifCond .ge 7, 3) := of_row (r := (83, .ifCond .ge 7, 3)) DX7_both_b0 29 rfl
theorem dX7_both_86 : decode cX7_both 86 = .ok (.lconst 1, 1) := of_row (r := (86, .lconst 1, 1)) DX7_both_b0 30 rfl
theorem dX7_both_87 : decode cX7_both 87 = .ok (.goto 4, 3) := of_row (r := (87, .goto 4, 3)) DX7_both_b0 31 rfl
theorem dX7_both_90 : decode cX7_both 90 = .ok (.lconst 0, 1) := of_row (r := (90, .lconst 0, 1)) DX7_both_b0 32 rfl
theorem dX7_both_91 : decode cX7_both 91 = .ok (.lreturn, 1) := of_row (r := (91, .lreturn, 1)) DX7_both_b0 33 rfl
theorem dX7_both_92 : decode cX7_both 92 = .ok (.lload_n 1, 1) := of_row (r := (92, .lload_n 1, 1)) DX7_both_b0 34 rfl
theorem dX7_both_93 : decode cX7_both 93 = .ok (.lload_n 3, 1) := of_row (r := (93, .lload_n 3, 1)) DX7_both_b0 35 rfl
theorem dX7_both_94 : decode cX7_both 94 = .ok (.lcmp, 1) := of_row (r := (94, .lcmp, 1)) DX7_both_b0 36 rfl
theorem dX7_both_95 : decode cX7_both 95 = .ok (.ifCond .ne 7, 3) := of_row (r := (95, .ifCond .ne 7, 3)) DX7_both_b0 37 rfl
theorem dX7_both_98 : decode cX7_both 98 = .ok (.lconst 1, 1) := of_row (r := (98, .lconst 1, 1)) DX7_both_b0 38 rfl
theorem dX7_both_99 : decode cX7_both 99 = .ok (.goto 4, 3) := of_row (r := (99, .goto 4, 3)) DX7_both_b0 39 rfl
theorem dX7_both_102 : decode cX7_both 102 = .ok (.lconst 0, 1) := of_row (r := (102, .lconst 0, 1)) DX7_both_b0 40 rfl
theorem dX7_both_103 : decode cX7_both 103 = .ok (.lreturn, 1) := of_row (r := (103, .lreturn, 1)) DX7_both_b0 41 rfl
theorem dX7_both_104 : decode cX7_both 104 = .ok (.lload_n 1, 1) := of_row (r := (104, .lload_n 1, 1)) DX7_both_b0 42 rfl
theorem dX7_both_105 : decode cX7_both 105 = .ok (.lload_n 3, 1) := of_row (r := (105, .lload_n 3, 1)) DX7_both_b0 43 rfl
theorem dX7_both_106 : decode cX7_both 106 = .ok (.lcmp, 1) := of_row (r := (106, .lcmp, 1)) DX7_both_b0 44 rfl
theorem dX7_both_107 : decode cX7_both 107 = .ok (.ifCond .le 7, 3) := of_row (r := (107, .ifCond .le 7, 3)) DX7_both_b0 45 rfl
theorem dX7_both_110 : decode cX7_both 110 = .ok (.lconst 1, 1) := of_row (r := (110, .lconst 1, 1)) DX7_both_b0 46 rfl
theorem dX7_both_111 : decode cX7_both 111 = .ok (.goto 4, 3) := of_row (r := (111, .goto 4, 3)) DX7_both_b0 47 rfl
theorem dX7_both_114 : decode cX7_both 114 = .ok (.lconst 0, 1) := of_row (r := (114, .lconst 0, 1)) DX7_both_b0 48 rfl
theorem dX7_both_115 : decode cX7_both 115 = .ok (.lreturn, 1) := of_row (r := (115, .lreturn, 1)) DX7_both_b0 49 rfl
theorem dX7_both_116 : decode cX7_both 116 = .ok (.lload_n 1, 1) := of_row (r := (116, .lload_n 1, 1)) DX7_both_b0 50 rfl
theorem dX7_both_117 : decode cX7_both 117 = .ok (.lload_n 3, 1) := of_row (r := (117, .lload_n 3, 1)) DX7_both_b0 51 rfl
theorem dX7_both_118 : decode cX7_both 118 = .ok (.ladd, 1) := of_row (r := (118, .ladd, 1)) DX7_both_b0 52 rfl
theorem dX7_both_119 : decode cX7_both 119 = .ok (.lreturn, 1) := of_row (r := (119, .lreturn, 1)) DX7_both_b0 53 rfl
theorem dX7_both_120 : decode cX7_both 120 = .ok (.lload_n 1, 1) := of_row (r := (120, .lload_n 1, 1)) DX7_both_b0 54 rfl
theorem dX7_both_121 : decode cX7_both 121 = .ok (.lload_n 3, 1) := of_row (r := (121, .lload_n 3, 1)) DX7_both_b0 55 rfl
theorem dX7_both_122 : decode cX7_both 122 = .ok (.lsub, 1) := of_row (r := (122, .lsub, 1)) DX7_both_b0 56 rfl
theorem dX7_both_123 : decode cX7_both 123 = .ok (.lreturn, 1) := of_row (r := (123, .lreturn, 1)) DX7_both_b0 57 rfl
theorem dX7_both_124 : decode cX7_both 124 = .ok (.lload_n 1, 1) := of_row (r := (124, .lload_n 1, 1)) DX7_both_b0 58 rfl
theorem dX7_both_125 : decode cX7_both 125 = .ok (.lload_n 3, 1) := of_row (r := (125, .lload_n 3, 1)) DX7_both_b0 59 rfl
set_option maxRecDepth 20000 in
theorem DX7_both_b1 : ([(126, .lmul, 1), (127, .lreturn, 1)] : List (Nat × Instr × Nat)).all (fun r => decide (decode cX7_both r.1 = .ok r.2)) = true := by decide +kernel
theorem dX7_both_126 : decode cX7_both 126 = .ok (.lmul, 1) := of_row (r := (126, .lmul, 1)) DX7_both_b1 0 rfl
theorem dX7_both_127 : decode cX7_both 127 = .ok (.lreturn, 1) := of_row (r := (127, .lreturn, 1)) DX7_both_b1 1 rfl
set_option maxRecDepth 20000 in
theorem DX7_holds_b0 : ([(0, .aload_n 0, 1), (1, .getfield 23, 3), (4, .iload_n 1, 1), (5, .iaload, 1), (6, .aload_n 0, 1), (7, .getfield 26, 3), (10, .iload_n 1, 1), (11, .iaload, 1), (12, .if_icmp .ne 5, 3), (15, .iconst 1, 1), (16, .ireturn, 1), (17, .aload_n 0, 1), (18, .iconst 0, 1), (19, .putfield 293, 3), (22, .aload_n 0, 1), (23, .getfield 23, 3), (26, .iload_n 1, 1), (27, .iaload, 1), (28, .istore 7, 2), (30, .iload 7, 2), (32, .aload_n 0, 1), (33, .getfield 26, 3), (36, .iload_n 1, 1), (37, .iaload, 1), (38, .if_icmp .ge 188, 3), (41, .aload_n 0, 1), (42, .getfield 29, 3), (45, .iload 7, 2), (47, .iaload, 1), (48, .iconst 1, 1), (49, .if_icmp .eq 15, 3), (52, .aload_n 0, 1), (53, .getfield 29, 3), (56, .iload 7, 2), (58, .iaload, 1), (59, .bipush 111, 2), (61, .if_icmp .lt 62, 3), (64, .aload_n 0, 1), (65, .getfield 82, 3), (68, .aload_n 0, 1), (69, .getfield 293, 3), (72, .aload_n 0, 1), (73, .getfield 29, 3), (76, .iload 7, 2), (78, .iaload, 1), (79, .iconst 1, 1), (80, .if_icmp .ne 14, 3), (83, .aload_n 0, 1), (84, .getfield 32, 3), (87, .iload 7, 2), (89, .iaload, 1), (90, .i2l, 1), (91, .goto 18, 3), (94, .aload_n 0, 1), (95, .aload_n 0, 1), (96, .getfield 29, 3), (99, .iload 7, 2), (101, .iaload, 1), (102, .iload_n 2, 1), (103, .lload_n 3, 1)] : List (Nat × Instr × Nat)).all (fun r => decide (decode cX7_holds r.1 = .ok r.2)) = true := by decide +kernel
theorem dX7_holds_0 : decode cX7_holds 0 = .ok (.aload_n 0, 1) := of_row (r := (0, .aload_n 0, 1)) DX7_holds_b0 0 rfl
theorem dX7_holds_1 : decode cX7_holds 1 = .ok (.getfield 23, 3) := of_row (r := (1, .getfield 23, 3)) DX7_holds_b0 1 rfl
theorem dX7_holds_4 : decode cX7_holds 4 = .ok (.iload_n 1, 1) := of_row (r := (4, .iload_n 1, 1)) DX7_holds_b0 2 rfl
theorem dX7_holds_5 : decode cX7_holds 5 = .ok (.iaload, 1) := of_row (r := (5, .iaload, 1)) DX7_holds_b0 3 rfl
theorem dX7_holds_6 : decode cX7_holds 6 = .ok (.aload_n 0, 1) := of_row (r := (6, .aload_n 0, 1)) DX7_holds_b0 4 rfl
theorem dX7_holds_7 : decode cX7_holds 7 = .ok (.getfield 26, 3) := of_row (r := (7, .getfield 26, 3)) DX7_holds_b0 5 rfl
theorem dX7_holds_10 : decode cX7_holds 10 = .ok (.iload_n 1, 1) := of_row (r := (10, .iload_n 1, 1)) DX7_holds_b0 6 rfl
theorem dX7_holds_11 : decode cX7_holds 11 = .ok (.iaload, 1) := of_row (r := (11, .iaload, 1)) DX7_holds_b0 7 rfl
theorem dX7_holds_12 : decode cX7_holds 12 = .ok (.if_icmp .ne 5, 3) := of_row (r := (12, .if_icmp .ne 5, 3)) DX7_holds_b0 8 rfl
theorem dX7_holds_15 : decode cX7_holds 15 = .ok (.iconst 1, 1) := of_row (r := (15, .iconst 1, 1)) DX7_holds_b0 9 rfl
theorem dX7_holds_16 : decode cX7_holds 16 = .ok (.ireturn, 1) := of_row (r := (16, .ireturn, 1)) DX7_holds_b0 10 rfl
theorem dX7_holds_17 : decode cX7_holds 17 = .ok (.aload_n 0, 1) := of_row (r := (17, .aload_n 0, 1)) DX7_holds_b0 11 rfl
theorem dX7_holds_18 : decode cX7_holds 18 = .ok (.iconst 0, 1) := of_row (r := (18, .iconst 0, 1)) DX7_holds_b0 12 rfl
theorem dX7_holds_19 : decode cX7_holds 19 = .ok (.putfield 293, 3) := of_row (r := (19, .putfield 293, 3)) DX7_holds_b0 13 rfl
theorem dX7_holds_22 : decode cX7_holds 22 = .ok (.aload_n 0, 1) := of_row (r := (22, .aload_n 0, 1)) DX7_holds_b0 14 rfl
theorem dX7_holds_23 : decode cX7_holds 23 = .ok (.getfield 23, 3) := of_row (r := (23, .getfield 23, 3)) DX7_holds_b0 15 rfl
theorem dX7_holds_26 : decode cX7_holds 26 = .ok (.iload_n 1, 1) := of_row (r := (26, .iload_n 1, 1)) DX7_holds_b0 16 rfl
theorem dX7_holds_27 : decode cX7_holds 27 = .ok (.iaload, 1) := of_row (r := (27, .iaload, 1)) DX7_holds_b0 17 rfl
theorem dX7_holds_28 : decode cX7_holds 28 = .ok (.istore 7, 2) := of_row (r := (28, .istore 7, 2)) DX7_holds_b0 18 rfl
theorem dX7_holds_30 : decode cX7_holds 30 = .ok (.iload 7, 2) := of_row (r := (30, .iload 7, 2)) DX7_holds_b0 19 rfl
theorem dX7_holds_32 : decode cX7_holds 32 = .ok (.aload_n 0, 1) := of_row (r := (32, .aload_n 0, 1)) DX7_holds_b0 20 rfl
theorem dX7_holds_33 : decode cX7_holds 33 = .ok (.getfield 26, 3) := of_row (r := (33, .getfield 26, 3)) DX7_holds_b0 21 rfl
theorem dX7_holds_36 : decode cX7_holds 36 = .ok (.iload_n 1, 1) := of_row (r := (36, .iload_n 1, 1)) DX7_holds_b0 22 rfl
theorem dX7_holds_37 : decode cX7_holds 37 = .ok (.iaload, 1) := of_row (r := (37, .iaload, 1)) DX7_holds_b0 23 rfl
theorem dX7_holds_38 : decode cX7_holds 38 = .ok (.if_icmp .ge 188, 3) := of_row (r := (38, .if_icmp .ge 188, 3)) DX7_holds_b0 24 rfl
theorem dX7_holds_41 : decode cX7_holds 41 = .ok (.aload_n 0, 1) := of_row (r := (41, .aload_n 0, 1)) DX7_holds_b0 25 rfl
theorem dX7_holds_42 : decode cX7_holds 42 = .ok (.getfield 29, 3) := of_row (r := (42, .getfield 29, 3)) DX7_holds_b0 26 rfl
theorem dX7_holds_45 : decode cX7_holds 45 = .ok (.iload 7, 2) := of_row (r := (45, .iload 7, 2)) DX7_holds_b0 27 rfl
theorem dX7_holds_47 : decode cX7_holds 47 = .ok (.iaload, 1) := of_row (r := (47, .iaload, 1)) DX7_holds_b0 28 rfl
theorem dX7_holds_48 : decode cX7_holds 48 = .ok (.iconst 1, 1) := of_row (r := (48, .iconst 1, 1)) DX7_holds_b0 29 rfl
theorem dX7_holds_49 : decode cX7_holds 49 = .ok (.if_icmp .eq 15, 3) := of_row (r := (49, .if_icmp .eq 15, 3)) DX7_holds_b0 30 rfl
theorem dX7_holds_52 : decode cX7_holds 52 = .ok (.aload_n 0, 1) := of_row (r := (52, .aload_n 0, 1)) DX7_holds_b0 31 rfl
theorem dX7_holds_53 : decode cX7_holds 53 = .ok (.getfield 29, 3) := of_row (r := (53, .getfield 29, 3)) DX7_holds_b0 32 rfl
theorem dX7_holds_56 : decode cX7_holds 56 = .ok (.iload 7, 2) := of_row (r := (56, .iload 7, 2)) DX7_holds_b0 33 rfl
theorem dX7_holds_58 : decode cX7_holds 58 = .ok (.iaload, 1) := of_row (r := (58, .iaload, 1)) DX7_holds_b0 34 rfl
theorem dX7_holds_59 : decode cX7_holds 59 = .ok (.bipush 111, 2) := of_row (r := (59, .bipush 111, 2)) DX7_holds_b0 35 rfl
theorem dX7_holds_61 : decode cX7_holds 61 = .ok (.if_icmp .lt 62, 3) := of_row (r := (61, .if_icmp .lt 62, 3)) DX7_holds_b0 36 rfl
theorem dX7_holds_64 : decode cX7_holds 64 = .ok (.aload_n 0, 1) := of_row (r := (64, .aload_n 0, 1)) DX7_holds_b0 37 rfl
theorem dX7_holds_65 : decode cX7_holds 65 = .ok (.getfield 82, 3) := of_row (r := (65, .getfield 82, 3)) DX7_holds_b0 38 rfl
theorem dX7_holds_68 : decode cX7_holds 68 = .ok (.aload_n 0, 1) := of_row (r := (68, .aload_n 0, 1)) DX7_holds_b0 39 rfl
theorem dX7_holds_69 : decode cX7_holds 69 = .ok (.getfield 293, 3) := of_row (r := (69, .getfield 293, 3)) DX7_holds_b0 40 rfl
theorem dX7_holds_72 : decode cX7_holds 72 = .ok (.aload_n 0, 1) := of_row (r := (72, .aload_n 0, 1)) DX7_holds_b0 41 rfl
theorem dX7_holds_73 : decode cX7_holds 73 = .ok (.getfield 29, 3) := of_row (r := (73, .getfield 29, 3)) DX7_holds_b0 42 rfl
theorem dX7_holds_76 : decode cX7_holds 76 = .ok (.iload 7, 2) := of_row (r := (76, .iload 7, 2)) DX7_holds_b0 43 rfl
theorem dX7_holds_78 : decode cX7_holds 78 = .ok (.iaload, 1) := of_row (r := (78, .iaload, 1)) DX7_holds_b0 44 rfl
theorem dX7_holds_79 : decode cX7_holds 79 = .ok (.iconst 1, 1) := of_row (r := (79, .iconst 1, 1)) DX7_holds_b0 45 rfl
theorem dX7_holds_80 : decode cX7_holds 80 = .ok (.if_icmp .ne 14, 3) := of_row (r := (80, .if_icmp .ne 14, 3)) DX7_holds_b0 46 rfl
theorem dX7_holds_83 : decode cX7_holds 83 = .ok (.aload_n 0, 1) := of_row (r := (83, .aload_n 0, 1)) DX7_holds_b0 47 rfl
theorem dX7_holds_84 : decode cX7_holds 84 = .ok (.getfield 32, 3) := of_row (r := (84, .getfield 32, 3)) DX7_holds_b0 48 rfl
theorem dX7_holds_87 : decode cX7_holds 87 = .ok (.iload 7, 2) := of_row (r := (87, .iload 7, 2)) DX7_holds_b0 49 rfl
theorem dX7_holds_89 : decode cX7_holds 89 = .ok (.iaload, 1) := of_row (r := (89, .iaload, 1)) DX7_holds_b0 50 rfl
theorem dX7_holds_90 : decode cX7_holds 90 = .ok (.i2l, 1) := of_row (r := (90, .i2l, 1)) DX7_holds_b0 51 rfl
theorem dX7_holds_91 : decode cX7_holds 91 = .ok (.goto 18, 3) := of_row (r := (91, .goto 18, 3)) DX7_holds_b0 52 rfl
theorem dX7_holds_94 : decode cX7_holds 94 = .ok (.aload_n 0, 1) := of_row (r := (94, .aload_n 0, 1)) DX7_holds_b0 53 rfl
theorem dX7_holds_95 : decode cX7_holds 95 = .ok (.aload_n 0, 1) := of_row (r := (95, .aload_n 0, 1)) DX7_holds_b0 54 rfl
theorem dX7_holds_96 : decode cX7_holds 96 = .ok (.getfield 29, 3) := of_row (r := (96, .getfield 29, 3)) DX7_holds_b0 55 rfl
theorem dX7_holds_99 : decode cX7_holds 99 = .ok (.iload 7, 2) := of_row (r := (99, .iload 7, 2)) DX7_holds_b0 56 rfl
theorem dX7_holds_101 : decode cX7_holds 101 = .ok (.iaload, 1) := of_row (r := (101, .iaload, 1)) DX7_holds_b0 57 rfl
theorem dX7_holds_102 : decode cX7_holds 102 = .ok (.iload_n 2, 1) := of_row (r := (102, .iload_n 2, 1)) DX7_holds_b0 58 rfl
theorem dX7_holds_103 : decode cX7_holds 103 = .ok (.lload_n 3, 1) := of_row (r := (103, .lload_n 3, 1)) DX7_holds_b0 59 rfl
set_option maxRecDepth 20000 in
theorem DX7_holds_b1 : ([(104, .lload 5, 2), (106, .invokevirtual 296, 3), (109, .lastore, 1), (110, .aload_n 0, 1), (111, .dup, 1), (112, .getfield 293, 3), (115, .iconst 1, 1), (116, .iadd, 1), (117, .putfield 293, 3), (120, .goto 100, 3), (123, .aload_n 0, 1), (124, .getfield 29, 3), (127, .iload 7, 2), (129, .iaload, 1), (130, .iconst 2, 1), (131, .if_icmp .ne 38, 3), (134, .aload_n 0, 1), (135, .getfield 82, 3), (138, .aload_n 0, 1), (139, .getfield 293, 3), (142, .iconst 1, 1), (143, .isub, 1), (144, .aload_n 0, 1), (145, .getfield 82, 3), (148, .aload_n 0, 1), (149, .getfield 293, 3), (152, .iconst 1, 1), (153, .isub, 1), (154, .laload, 1), (155, .lconst 0, 1), (156, .lcmp, 1), (157, .ifCond .ne 7, 3), (160, .lconst 1, 1), (161, .goto 4, 3), (164, .lconst 0, 1), (165, .lastore, 1), (166, .goto 54, 3), (169, .aload_n 0, 1), (170, .dup, 1), (171, .getfield 293, 3), (174, .iconst 1, 1), (175, .isub, 1), (176, .putfield 293, 3), (179, .aload_n 0, 1), (180, .getfield 82, 3), (183, .aload_n 0, 1), (184, .getfield 293, 3), (187, .iconst 1, 1), (188, .isub, 1), (189, .aload_n 0, 1), (190, .getfield 29, 3), (193, .iload 7, 2), (195, .iaload, 1), (196, .aload_n 0, 1), (197, .getfield 82, 3), (200, .aload_n 0, 1), (201, .getfield 293, 3), (204, .iconst 1, 1), (205, .isub, 1), (206, .laload, 1)] : List (Nat × Instr × Nat)).all (fun r => decide (decode cX7_holds r.1 = .ok r.2)) = true := by decide +kernel
theorem dX7_holds_104 : decode cX7_holds 104 = .ok (.lload 5, 2) := of_row (r := (104, .lload 5, 2)) DX7_holds_b1 0 rfl
theorem dX7_holds_106 : decode cX7_holds 106 = .ok (.invokevirtual 296, 3) := of_row (r := (106, .invokevirtual 296, 3)) DX7_holds_b1 1 rfl
theorem dX7_holds_109 : decode cX7_holds 109 = .ok (.lastore, 1) := of_row (r := (109, .lastore, 1)) DX7_holds_b1 2 rfl
theorem dX7_holds_110 : decode cX7_holds 110 = .ok (.aload_n 0, 1) := of_row (r := (110, .aload_n 0, 1)) DX7_holds_b1 3 rfl
theorem dX7_holds_111 : decode cX7_holds 111 = .ok (.dup, 1) := of_row (r := (111, .dup, 1)) DX7_holds_b1 4 rfl
theorem dX7_holds_112 : decode cX7_holds 112 = .ok (.getfield 293, 3) := of_row (r := (112, .getfield 293, 3)) DX7_holds_b1 5 rfl
theorem dX7_holds_115 : decode cX7_holds 115 = .ok (.iconst 1, 1) := of_row (r := (115, .iconst 1, 1)) DX7_holds_b1 6 rfl
theorem dX7_holds_116 : decode cX7_holds 116 = .ok (.iadd, 1) := of_row (r := (116, .iadd, 1)) DX7_holds_b1 7 rfl
theorem dX7_holds_117 : decode cX7_holds 117 = .ok (.putfield 293, 3) := of_row (r := (117, .putfield 293, 3)) DX7_holds_b1 8 rfl
theorem dX7_holds_120 : decode cX7_holds 120 = .ok (.goto 100, 3) := of_row (r := (120, .goto 100, 3)) DX7_holds_b1 9 rfl
theorem dX7_holds_123 : decode cX7_holds 123 = .ok (.aload_n 0, 1) := of_row (r := (123, .aload_n 0, 1)) DX7_holds_b1 10 rfl
theorem dX7_holds_124 : decode cX7_holds 124 = .ok (.getfield 29, 3) := of_row (r := (124, .getfield 29, 3)) DX7_holds_b1 11 rfl
theorem dX7_holds_127 : decode cX7_holds 127 = .ok (.iload 7, 2) := of_row (r := (127, .iload 7, 2)) DX7_holds_b1 12 rfl
theorem dX7_holds_129 : decode cX7_holds 129 = .ok (.iaload, 1) := of_row (r := (129, .iaload, 1)) DX7_holds_b1 13 rfl
theorem dX7_holds_130 : decode cX7_holds 130 = .ok (.iconst 2, 1) := of_row (r := (130, .iconst 2, 1)) DX7_holds_b1 14 rfl
theorem dX7_holds_131 : decode cX7_holds 131 = .ok (.if_icmp .ne 38, 3) := of_row (r := (131, .if_icmp .ne 38, 3)) DX7_holds_b1 15 rfl
theorem dX7_holds_134 : decode cX7_holds 134 = .ok (.aload_n 0, 1) := of_row (r := (134, .aload_n 0, 1)) DX7_holds_b1 16 rfl
theorem dX7_holds_135 : decode cX7_holds 135 = .ok (.getfield 82, 3) := of_row (r := (135, .getfield 82, 3)) DX7_holds_b1 17 rfl
theorem dX7_holds_138 : decode cX7_holds 138 = .ok (.aload_n 0, 1) := of_row (r := (138, .aload_n 0, 1)) DX7_holds_b1 18 rfl
theorem dX7_holds_139 : decode cX7_holds 139 = .ok (.getfield 293, 3) := of_row (r := (139, .getfield 293, 3)) DX7_holds_b1 19 rfl
theorem dX7_holds_142 : decode cX7_holds 142 = .ok (.iconst 1, 1) := of_row (r := (142, .iconst 1, 1)) DX7_holds_b1 20 rfl
theorem dX7_holds_143 : decode cX7_holds 143 = .ok (.isub, 1) := of_row (r := (143, .isub, 1)) DX7_holds_b1 21 rfl
theorem dX7_holds_144 : decode cX7_holds 144 = .ok (.aload_n 0, 1) := of_row (r := (144, .aload_n 0, 1)) DX7_holds_b1 22 rfl
theorem dX7_holds_145 : decode cX7_holds 145 = .ok (.getfield 82, 3) := of_row (r := (145, .getfield 82, 3)) DX7_holds_b1 23 rfl
theorem dX7_holds_148 : decode cX7_holds 148 = .ok (.aload_n 0, 1) := of_row (r := (148, .aload_n 0, 1)) DX7_holds_b1 24 rfl
theorem dX7_holds_149 : decode cX7_holds 149 = .ok (.getfield 293, 3) := of_row (r := (149, .getfield 293, 3)) DX7_holds_b1 25 rfl
theorem dX7_holds_152 : decode cX7_holds 152 = .ok (.iconst 1, 1) := of_row (r := (152, .iconst 1, 1)) DX7_holds_b1 26 rfl
theorem dX7_holds_153 : decode cX7_holds 153 = .ok (.isub, 1) := of_row (r := (153, .isub, 1)) DX7_holds_b1 27 rfl
theorem dX7_holds_154 : decode cX7_holds 154 = .ok (.laload, 1) := of_row (r := (154, .laload, 1)) DX7_holds_b1 28 rfl
theorem dX7_holds_155 : decode cX7_holds 155 = .ok (.lconst 0, 1) := of_row (r := (155, .lconst 0, 1)) DX7_holds_b1 29 rfl
theorem dX7_holds_156 : decode cX7_holds 156 = .ok (.lcmp, 1) := of_row (r := (156, .lcmp, 1)) DX7_holds_b1 30 rfl
theorem dX7_holds_157 : decode cX7_holds 157 = .ok (.ifCond .ne 7, 3) := of_row (r := (157, .ifCond .ne 7, 3)) DX7_holds_b1 31 rfl
theorem dX7_holds_160 : decode cX7_holds 160 = .ok (.lconst 1, 1) := of_row (r := (160, .lconst 1, 1)) DX7_holds_b1 32 rfl
theorem dX7_holds_161 : decode cX7_holds 161 = .ok (.goto 4, 3) := of_row (r := (161, .goto 4, 3)) DX7_holds_b1 33 rfl
theorem dX7_holds_164 : decode cX7_holds 164 = .ok (.lconst 0, 1) := of_row (r := (164, .lconst 0, 1)) DX7_holds_b1 34 rfl
theorem dX7_holds_165 : decode cX7_holds 165 = .ok (.lastore, 1) := of_row (r := (165, .lastore, 1)) DX7_holds_b1 35 rfl
theorem dX7_holds_166 : decode cX7_holds 166 = .ok (.goto 54, 3) := of_row (r := (166, .goto 54, 3)) DX7_holds_b1 36 rfl
theorem dX7_holds_169 : decode cX7_holds 169 = .ok (.aload_n 0, 1) := of_row (r := (169, .aload_n 0, 1)) DX7_holds_b1 37 rfl
theorem dX7_holds_170 : decode cX7_holds 170 = .ok (.dup, 1) := of_row (r := (170, .dup, 1)) DX7_holds_b1 38 rfl
theorem dX7_holds_171 : decode cX7_holds 171 = .ok (.getfield 293, 3) := of_row (r := (171, .getfield 293, 3)) DX7_holds_b1 39 rfl
theorem dX7_holds_174 : decode cX7_holds 174 = .ok (.iconst 1, 1) := of_row (r := (174, .iconst 1, 1)) DX7_holds_b1 40 rfl
theorem dX7_holds_175 : decode cX7_holds 175 = .ok (.isub, 1) := of_row (r := (175, .isub, 1)) DX7_holds_b1 41 rfl
theorem dX7_holds_176 : decode cX7_holds 176 = .ok (.putfield 293, 3) := of_row (r := (176, .putfield 293, 3)) DX7_holds_b1 42 rfl
theorem dX7_holds_179 : decode cX7_holds 179 = .ok (.aload_n 0, 1) := of_row (r := (179, .aload_n 0, 1)) DX7_holds_b1 43 rfl
theorem dX7_holds_180 : decode cX7_holds 180 = .ok (.getfield 82, 3) := of_row (r := (180, .getfield 82, 3)) DX7_holds_b1 44 rfl
theorem dX7_holds_183 : decode cX7_holds 183 = .ok (.aload_n 0, 1) := of_row (r := (183, .aload_n 0, 1)) DX7_holds_b1 45 rfl
theorem dX7_holds_184 : decode cX7_holds 184 = .ok (.getfield 293, 3) := of_row (r := (184, .getfield 293, 3)) DX7_holds_b1 46 rfl
theorem dX7_holds_187 : decode cX7_holds 187 = .ok (.iconst 1, 1) := of_row (r := (187, .iconst 1, 1)) DX7_holds_b1 47 rfl
theorem dX7_holds_188 : decode cX7_holds 188 = .ok (.isub, 1) := of_row (r := (188, .isub, 1)) DX7_holds_b1 48 rfl
theorem dX7_holds_189 : decode cX7_holds 189 = .ok (.aload_n 0, 1) := of_row (r := (189, .aload_n 0, 1)) DX7_holds_b1 49 rfl
theorem dX7_holds_190 : decode cX7_holds 190 = .ok (.getfield 29, 3) := of_row (r := (190, .getfield 29, 3)) DX7_holds_b1 50 rfl
theorem dX7_holds_193 : decode cX7_holds 193 = .ok (.iload 7, 2) := of_row (r := (193, .iload 7, 2)) DX7_holds_b1 51 rfl
theorem dX7_holds_195 : decode cX7_holds 195 = .ok (.iaload, 1) := of_row (r := (195, .iaload, 1)) DX7_holds_b1 52 rfl
theorem dX7_holds_196 : decode cX7_holds 196 = .ok (.aload_n 0, 1) := of_row (r := (196, .aload_n 0, 1)) DX7_holds_b1 53 rfl
theorem dX7_holds_197 : decode cX7_holds 197 = .ok (.getfield 82, 3) := of_row (r := (197, .getfield 82, 3)) DX7_holds_b1 54 rfl
theorem dX7_holds_200 : decode cX7_holds 200 = .ok (.aload_n 0, 1) := of_row (r := (200, .aload_n 0, 1)) DX7_holds_b1 55 rfl
theorem dX7_holds_201 : decode cX7_holds 201 = .ok (.getfield 293, 3) := of_row (r := (201, .getfield 293, 3)) DX7_holds_b1 56 rfl
theorem dX7_holds_204 : decode cX7_holds 204 = .ok (.iconst 1, 1) := of_row (r := (204, .iconst 1, 1)) DX7_holds_b1 57 rfl
theorem dX7_holds_205 : decode cX7_holds 205 = .ok (.isub, 1) := of_row (r := (205, .isub, 1)) DX7_holds_b1 58 rfl
theorem dX7_holds_206 : decode cX7_holds 206 = .ok (.laload, 1) := of_row (r := (206, .laload, 1)) DX7_holds_b1 59 rfl
set_option maxRecDepth 20000 in
theorem DX7_holds_b2 : ([(207, .aload_n 0, 1), (208, .getfield 82, 3), (211, .aload_n 0, 1), (212, .getfield 293, 3), (215, .laload, 1), (216, .invokestatic 300, 3), (219, .lastore, 1), (220, .iinc 7 1, 3), (223, .goto (-193), 3), (226, .aload_n 0, 1), (227, .getfield 82, 3), (230, .iconst 0, 1), (231, .laload, 1), (232, .lconst 0, 1), (233, .lcmp, 1), (234, .ifCond .eq 7, 3), (237, .iconst 1, 1), (238, .goto 4, 3), (241, .iconst 0, 1), (242, .ireturn, 1)] : List (Nat × Instr × Nat)).all (fun r => decide (decode cX7_holds r.1 = .ok r.2)) = true := by decide +kernel
theorem dX7_holds_207 : decode cX7_holds 207 = .ok (.aload_n 0, 1) := of_row (r := (207, .aload_n 0, 1)) DX7_holds_b2 0 rfl
theorem dX7_holds_208 : decode cX7_holds 208 = .ok (.getfield 82, 3) := of_row (r := (208, .getfield 82, 3)) DX7_holds_b2 1 rfl
theorem dX7_holds_211 : decode cX7_holds 211 = .ok (.aload_n 0, 1) := of_row (r := (211, .aload_n 0, 1)) DX7_holds_b2 2 rfl
theorem dX7_holds_212 : decode cX7_holds 212 = .ok (.getfield 293, 3) := of_row (r := (212, .getfield 293, 3)) DX7_holds_b2 3 rfl
theorem dX7_holds_215 : decode cX7_holds 215 = .ok (.laload, 1) := of_row (r := (215, .laload, 1)) DX7_holds_b2 4 rfl
theorem dX7_holds_216 : decode cX7_holds 216 = .ok (.invokestatic 300, 3) := of_row (r := (216, .invokestatic 300, 3)) DX7_holds_b2 5 rfl
theorem dX7_holds_219 : decode cX7_holds 219 = .ok (.lastore, 1) := of_row (r := (219, .lastore, 1)) DX7_holds_b2 6 rfl
theorem dX7_holds_220 : decode cX7_holds 220 = .ok (.iinc 7 1, 3) := of_row (r := (220, .iinc 7 1, 3)) DX7_holds_b2 7 rfl
theorem dX7_holds_223 : decode cX7_holds 223 = .ok (.goto (-193), 3) := of_row (r := (223, .goto (-193), 3)) DX7_holds_b2 8 rfl
theorem dX7_holds_226 : decode cX7_holds 226 = .ok (.aload_n 0, 1) := of_row (r := (226, .aload_n 0, 1)) DX7_holds_b2 9 rfl
theorem dX7_holds_227 : decode cX7_holds 227 = .ok (.getfield 82, 3) := of_row (r := (227, .getfield 82, 3)) DX7_holds_b2 10 rfl
theorem dX7_holds_230 : decode cX7_holds 230 = .ok (.iconst 0, 1) := of_row (r := (230, .iconst 0, 1)) DX7_holds_b2 11 rfl
theorem dX7_holds_231 : decode cX7_holds 231 = .ok (.laload, 1) := of_row (r := (231, .laload, 1)) DX7_holds_b2 12 rfl
theorem dX7_holds_232 : decode cX7_holds 232 = .ok (.lconst 0, 1) := of_row (r := (232, .lconst 0, 1)) DX7_holds_b2 13 rfl
theorem dX7_holds_233 : decode cX7_holds 233 = .ok (.lcmp, 1) := of_row (r := (233, .lcmp, 1)) DX7_holds_b2 14 rfl
theorem dX7_holds_234 : decode cX7_holds 234 = .ok (.ifCond .eq 7, 3) := of_row (r := (234, .ifCond .eq 7, 3)) DX7_holds_b2 15 rfl
theorem dX7_holds_237 : decode cX7_holds 237 = .ok (.iconst 1, 1) := of_row (r := (237, .iconst 1, 1)) DX7_holds_b2 16 rfl
theorem dX7_holds_238 : decode cX7_holds 238 = .ok (.goto 4, 3) := of_row (r := (238, .goto 4, 3)) DX7_holds_b2 17 rfl
theorem dX7_holds_241 : decode cX7_holds 241 = .ok (.iconst 0, 1) := of_row (r := (241, .iconst 0, 1)) DX7_holds_b2 18 rfl
theorem dX7_holds_242 : decode cX7_holds 242 = .ok (.ireturn, 1) := of_row (r := (242, .ireturn, 1)) DX7_holds_b2 19 rfl
set_option maxRecDepth 20000 in
theorem DX7_first_b0 : ([(0, .iconst 0, 1), (1, .istore 7, 2), (3, .iload_n 1, 1), (4, .ifCond .lt 41, 3), (7, .iload 7, 2), (9, .aload_n 0, 1), (10, .getfield 13, 3), (13, .iload_n 1, 1), (14, .iaload, 1), (15, .if_icmp .ge 30, 3), (18, .aload_n 0, 1), (19, .bipush 40, 2), (21, .iload_n 1, 1), (22, .imul, 1), (23, .iload 7, 2), (25, .iadd, 1), (26, .iload_n 2, 1), (27, .lload_n 3, 1), (28, .lload 5, 2), (30, .invokevirtual 304, 3), (33, .ifCond .eq 6, 3), (36, .iload 7, 2), (38, .ireturn, 1), (39, .iinc 7 1, 3), (42, .goto (-39), 3), (45, .bipush (-2), 2), (47, .ireturn, 1)] : List (Nat × Instr × Nat)).all (fun r => decide (decode cX7_first r.1 = .ok r.2)) = true := by decide +kernel
theorem dX7_first_0 : decode cX7_first 0 = .ok (.iconst 0, 1) := of_row (r := (0, .iconst 0, 1)) DX7_first_b0 0 rfl
theorem dX7_first_1 : decode cX7_first 1 = .ok (.istore 7, 2) := of_row (r := (1, .istore 7, 2)) DX7_first_b0 1 rfl
theorem dX7_first_3 : decode cX7_first 3 = .ok (.iload_n 1, 1) := of_row (r := (3, .iload_n 1, 1)) DX7_first_b0 2 rfl
theorem dX7_first_4 : decode cX7_first 4 = .ok (.ifCond .lt 41, 3) := of_row (r := (4, .ifCond .lt 41, 3)) DX7_first_b0 3 rfl
theorem dX7_first_7 : decode cX7_first 7 = .ok (.iload 7, 2) := of_row (r := (7, .iload 7, 2)) DX7_first_b0 4 rfl
theorem dX7_first_9 : decode cX7_first 9 = .ok (.aload_n 0, 1) := of_row (r := (9, .aload_n 0, 1)) DX7_first_b0 5 rfl
theorem dX7_first_10 : decode cX7_first 10 = .ok (.getfield 13, 3) := of_row (r := (10, .getfield 13, 3)) DX7_first_b0 6 rfl
theorem dX7_first_13 : decode cX7_first 13 = .ok (.iload_n 1, 1) := of_row (r := (13, .iload_n 1, 1)) DX7_first_b0 7 rfl
theorem dX7_first_14 : decode cX7_first 14 = .ok (.iaload, 1) := of_row (r := (14, .iaload, 1)) DX7_first_b0 8 rfl
theorem dX7_first_15 : decode cX7_first 15 = .ok (.if_icmp .ge 30, 3) := of_row (r := (15, .if_icmp .ge 30, 3)) DX7_first_b0 9 rfl
theorem dX7_first_18 : decode cX7_first 18 = .ok (.aload_n 0, 1) := of_row (r := (18, .aload_n 0, 1)) DX7_first_b0 10 rfl
theorem dX7_first_19 : decode cX7_first 19 = .ok (.bipush 40, 2) := of_row (r := (19, .bipush 40, 2)) DX7_first_b0 11 rfl
theorem dX7_first_21 : decode cX7_first 21 = .ok (.iload_n 1, 1) := of_row (r := (21, .iload_n 1, 1)) DX7_first_b0 12 rfl
theorem dX7_first_22 : decode cX7_first 22 = .ok (.imul, 1) := of_row (r := (22, .imul, 1)) DX7_first_b0 13 rfl
theorem dX7_first_23 : decode cX7_first 23 = .ok (.iload 7, 2) := of_row (r := (23, .iload 7, 2)) DX7_first_b0 14 rfl
theorem dX7_first_25 : decode cX7_first 25 = .ok (.iadd, 1) := of_row (r := (25, .iadd, 1)) DX7_first_b0 15 rfl
theorem dX7_first_26 : decode cX7_first 26 = .ok (.iload_n 2, 1) := of_row (r := (26, .iload_n 2, 1)) DX7_first_b0 16 rfl
theorem dX7_first_27 : decode cX7_first 27 = .ok (.lload_n 3, 1) := of_row (r := (27, .lload_n 3, 1)) DX7_first_b0 17 rfl
theorem dX7_first_28 : decode cX7_first 28 = .ok (.lload 5, 2) := of_row (r := (28, .lload 5, 2)) DX7_first_b0 18 rfl
theorem dX7_first_30 : decode cX7_first 30 = .ok (.invokevirtual 304, 3) := of_row (r := (30, .invokevirtual 304, 3)) DX7_first_b0 19 rfl
theorem dX7_first_33 : decode cX7_first 33 = .ok (.ifCond .eq 6, 3) := of_row (r := (33, .ifCond .eq 6, 3)) DX7_first_b0 20 rfl
theorem dX7_first_36 : decode cX7_first 36 = .ok (.iload 7, 2) := of_row (r := (36, .iload 7, 2)) DX7_first_b0 21 rfl
theorem dX7_first_38 : decode cX7_first 38 = .ok (.ireturn, 1) := of_row (r := (38, .ireturn, 1)) DX7_first_b0 22 rfl
theorem dX7_first_39 : decode cX7_first 39 = .ok (.iinc 7 1, 3) := of_row (r := (39, .iinc 7 1, 3)) DX7_first_b0 23 rfl
theorem dX7_first_42 : decode cX7_first 42 = .ok (.goto (-39), 3) := of_row (r := (42, .goto (-39), 3)) DX7_first_b0 24 rfl
theorem dX7_first_45 : decode cX7_first 45 = .ok (.bipush (-2), 2) := of_row (r := (45, .bipush (-2), 2)) DX7_first_b0 25 rfl
theorem dX7_first_47 : decode cX7_first 47 = .ok (.ireturn, 1) := of_row (r := (47, .ireturn, 1)) DX7_first_b0 26 rfl
set_option maxRecDepth 20000 in
theorem DX7_would_b0 : ([(0, .aload_n 0, 1), (1, .iload_n 1, 1), (2, .invokevirtual 264, 3), (5, .ifCond .eq 31, 3), (8, .aload_n 0, 1), (9, .iload_n 2, 1), (10, .invokevirtual 308, 3), (13, .ifCond .eq 23, 3), (16, .aload_n 0, 1), (17, .getfield 59, 3), (20, .iload_n 2, 1), (21, .iaload, 1), (22, .ifCond .eq 14, 3), (25, .iload_n 3, 1), (26, .iconst 0, 1), (27, .ldc_w 311, 3), (30, .invokestatic 132, 3), (33, .ifCond .ne 7, 3), (36, .iconst (-1), 1), (37, .goto 12, 3), (40, .aload_n 0, 1), (41, .iload_n 1, 1), (42, .iload_n 2, 1), (43, .iload_n 3, 1), (44, .i2l, 1), (45, .lconst 0, 1), (46, .invokevirtual 312, 3), (49, .ireturn, 1)] : List (Nat × Instr × Nat)).all (fun r => decide (decode cX7_would r.1 = .ok r.2)) = true := by decide +kernel
theorem dX7_would_0 : decode cX7_would 0 = .ok (.aload_n 0, 1) := of_row (r := (0, .aload_n 0, 1)) DX7_would_b0 0 rfl
theorem dX7_would_1 : decode cX7_would 1 = .ok (.iload_n 1, 1) := of_row (r := (1, .iload_n 1, 1)) DX7_would_b0 1 rfl
theorem dX7_would_2 : decode cX7_would 2 = .ok (.invokevirtual 264, 3) := of_row (r := (2, .invokevirtual 264, 3)) DX7_would_b0 2 rfl
theorem dX7_would_5 : decode cX7_would 5 = .ok (.ifCond .eq 31, 3) := of_row (r := (5, .ifCond .eq 31, 3)) DX7_would_b0 3 rfl
theorem dX7_would_8 : decode cX7_would 8 = .ok (.aload_n 0, 1) := of_row (r := (8, .aload_n 0, 1)) DX7_would_b0 4 rfl
theorem dX7_would_9 : decode cX7_would 9 = .ok (.iload_n 2, 1) := of_row (r := (9, .iload_n 2, 1)) DX7_would_b0 5 rfl
theorem dX7_would_10 : decode cX7_would 10 = .ok (.invokevirtual 308, 3) := of_row (r := (10, .invokevirtual 308, 3)) DX7_would_b0 6 rfl
theorem dX7_would_13 : decode cX7_would 13 = .ok (.ifCond .eq 23, 3) := of_row (r := (13, .ifCond .eq 23, 3)) DX7_would_b0 7 rfl
theorem dX7_would_16 : decode cX7_would 16 = .ok (.aload_n 0, 1) := of_row (r := (16, .aload_n 0, 1)) DX7_would_b0 8 rfl
theorem dX7_would_17 : decode cX7_would 17 = .ok (.getfield 59, 3) := of_row (r := (17, .getfield 59, 3)) DX7_would_b0 9 rfl
theorem dX7_would_20 : decode cX7_would 20 = .ok (.iload_n 2, 1) := of_row (r := (20, .iload_n 2, 1)) DX7_would_b0 10 rfl
theorem dX7_would_21 : decode cX7_would 21 = .ok (.iaload, 1) := of_row (r := (21, .iaload, 1)) DX7_would_b0 11 rfl
theorem dX7_would_22 : decode cX7_would 22 = .ok (.ifCond .eq 14, 3) := of_row (r := (22, .ifCond .eq 14, 3)) DX7_would_b0 12 rfl
theorem dX7_would_25 : decode cX7_would 25 = .ok (.iload_n 3, 1) := of_row (r := (25, .iload_n 3, 1)) DX7_would_b0 13 rfl
theorem dX7_would_26 : decode cX7_would 26 = .ok (.iconst 0, 1) := of_row (r := (26, .iconst 0, 1)) DX7_would_b0 14 rfl
theorem dX7_would_27 : decode cX7_would 27 = .ok (.ldc_w 311, 3) := of_row (r := (27, .ldc_w 311, 3)) DX7_would_b0 15 rfl
theorem dX7_would_30 : decode cX7_would 30 = .ok (.invokestatic 132, 3) := of_row (r := (30, .invokestatic 132, 3)) DX7_would_b0 16 rfl
theorem dX7_would_33 : decode cX7_would 33 = .ok (.ifCond .ne 7, 3) := of_row (r := (33, .ifCond .ne 7, 3)) DX7_would_b0 17 rfl
theorem dX7_would_36 : decode cX7_would 36 = .ok (.iconst (-1), 1) := of_row (r := (36, .iconst (-1), 1)) DX7_would_b0 18 rfl
theorem dX7_would_37 : decode cX7_would 37 = .ok (.goto 12, 3) := of_row (r := (37, .goto 12, 3)) DX7_would_b0 19 rfl
theorem dX7_would_40 : decode cX7_would 40 = .ok (.aload_n 0, 1) := of_row (r := (40, .aload_n 0, 1)) DX7_would_b0 20 rfl
theorem dX7_would_41 : decode cX7_would 41 = .ok (.iload_n 1, 1) := of_row (r := (41, .iload_n 1, 1)) DX7_would_b0 21 rfl
theorem dX7_would_42 : decode cX7_would 42 = .ok (.iload_n 2, 1) := of_row (r := (42, .iload_n 2, 1)) DX7_would_b0 22 rfl
theorem dX7_would_43 : decode cX7_would 43 = .ok (.iload_n 3, 1) := of_row (r := (43, .iload_n 3, 1)) DX7_would_b0 23 rfl
theorem dX7_would_44 : decode cX7_would 44 = .ok (.i2l, 1) := of_row (r := (44, .i2l, 1)) DX7_would_b0 24 rfl
theorem dX7_would_45 : decode cX7_would 45 = .ok (.lconst 0, 1) := of_row (r := (45, .lconst 0, 1)) DX7_would_b0 25 rfl
theorem dX7_would_46 : decode cX7_would 46 = .ok (.invokevirtual 312, 3) := of_row (r := (46, .invokevirtual 312, 3)) DX7_would_b0 26 rfl
theorem dX7_would_49 : decode cX7_would 49 = .ok (.ireturn, 1) := of_row (r := (49, .ireturn, 1)) DX7_would_b0 27 rfl
set_option maxRecDepth 20000 in
theorem DX7_come_b0 : ([(0, .iload_n 1, 1), (1, .invokestatic 281, 3), (4, .ifCond .eq 14, 3), (7, .iload_n 2, 1), (8, .iconst 0, 1), (9, .ldc_w 284, 3), (12, .invokestatic 132, 3), (15, .ifCond .ne 5, 3), (18, .iconst (-1), 1), (19, .ireturn, 1), (20, .aload_n 0, 1), (21, .getfield 79, 3), (24, .iload_n 1, 1), (25, .iaload, 1), (26, .aload_n 0, 1), (27, .getfield 267, 3), (30, .if_icmp .ne 6, 3), (33, .bipush (-2), 2), (35, .ireturn, 1), (36, .aload_n 0, 1), (37, .iload_n 1, 1), (38, .invokevirtual 316, 3), (41, .istore_n 3, 1), (42, .aload_n 0, 1), (43, .getfield 319, 3), (46, .iload_n 3, 1), (47, .iadd, 1), (48, .sipush 4000, 3), (51, .if_icmp .gt 15, 3), (54, .aload_n 0, 1), (55, .getfield 322, 3), (58, .iload_n 3, 1), (59, .iadd, 1), (60, .sipush 2000, 3), (63, .if_icmp .le 6, 3), (66, .bipush (-3), 2), (68, .ireturn, 1), (69, .aload_n 0, 1), (70, .getfield 79, 3), (73, .iload_n 1, 1), (74, .aload_n 0, 1), (75, .getfield 267, 3), (78, .iastore, 1), (79, .aload_n 0, 1), (80, .dup, 1), (81, .getfield 325, 3), (84, .iload_n 2, 1), (85, .i2l, 1), (86, .ladd, 1), (87, .putfield 325, 3), (90, .iload_n 2, 1), (91, .i2l, 1), (92, .aload_n 0, 1), (93, .getfield 71, 3), (96, .iload_n 1, 1), (97, .laload, 1), (98, .ladd, 1), (99, .lstore 4, 2), (101, .aload_n 0, 1), (102, .getfield 71, 3)] : List (Nat × Instr × Nat)).all (fun r => decide (decode cX7_come r.1 = .ok r.2)) = true := by decide +kernel
theorem dX7_come_0 : decode cX7_come 0 = .ok (.iload_n 1, 1) := of_row (r := (0, .iload_n 1, 1)) DX7_come_b0 0 rfl
theorem dX7_come_1 : decode cX7_come 1 = .ok (.invokestatic 281, 3) := of_row (r := (1, .invokestatic 281, 3)) DX7_come_b0 1 rfl
theorem dX7_come_4 : decode cX7_come 4 = .ok (.ifCond .eq 14, 3) := of_row (r := (4, .ifCond .eq 14, 3)) DX7_come_b0 2 rfl
theorem dX7_come_7 : decode cX7_come 7 = .ok (.iload_n 2, 1) := of_row (r := (7, .iload_n 2, 1)) DX7_come_b0 3 rfl
theorem dX7_come_8 : decode cX7_come 8 = .ok (.iconst 0, 1) := of_row (r := (8, .iconst 0, 1)) DX7_come_b0 4 rfl
theorem dX7_come_9 : decode cX7_come 9 = .ok (.ldc_w 284, 3) := of_row (r := (9, .ldc_w 284, 3)) DX7_come_b0 5 rfl
theorem dX7_come_12 : decode cX7_come 12 = .ok (.invokestatic 132, 3) := of_row (r := (12, .invokestatic 132, 3)) DX7_come_b0 6 rfl
theorem dX7_come_15 : decode cX7_come 15 = .ok (.ifCond .ne 5, 3) := of_row (r := (15, .ifCond .ne 5, 3)) DX7_come_b0 7 rfl
theorem dX7_come_18 : decode cX7_come 18 = .ok (.iconst (-1), 1) := of_row (r := (18, .iconst (-1), 1)) DX7_come_b0 8 rfl
theorem dX7_come_19 : decode cX7_come 19 = .ok (.ireturn, 1) := of_row (r := (19, .ireturn, 1)) DX7_come_b0 9 rfl
theorem dX7_come_20 : decode cX7_come 20 = .ok (.aload_n 0, 1) := of_row (r := (20, .aload_n 0, 1)) DX7_come_b0 10 rfl
theorem dX7_come_21 : decode cX7_come 21 = .ok (.getfield 79, 3) := of_row (r := (21, .getfield 79, 3)) DX7_come_b0 11 rfl
theorem dX7_come_24 : decode cX7_come 24 = .ok (.iload_n 1, 1) := of_row (r := (24, .iload_n 1, 1)) DX7_come_b0 12 rfl
theorem dX7_come_25 : decode cX7_come 25 = .ok (.iaload, 1) := of_row (r := (25, .iaload, 1)) DX7_come_b0 13 rfl
theorem dX7_come_26 : decode cX7_come 26 = .ok (.aload_n 0, 1) := of_row (r := (26, .aload_n 0, 1)) DX7_come_b0 14 rfl
theorem dX7_come_27 : decode cX7_come 27 = .ok (.getfield 267, 3) := of_row (r := (27, .getfield 267, 3)) DX7_come_b0 15 rfl
theorem dX7_come_30 : decode cX7_come 30 = .ok (.if_icmp .ne 6, 3) := of_row (r := (30, .if_icmp .ne 6, 3)) DX7_come_b0 16 rfl
theorem dX7_come_33 : decode cX7_come 33 = .ok (.bipush (-2), 2) := of_row (r := (33, .bipush (-2), 2)) DX7_come_b0 17 rfl
theorem dX7_come_35 : decode cX7_come 35 = .ok (.ireturn, 1) := of_row (r := (35, .ireturn, 1)) DX7_come_b0 18 rfl
theorem dX7_come_36 : decode cX7_come 36 = .ok (.aload_n 0, 1) := of_row (r := (36, .aload_n 0, 1)) DX7_come_b0 19 rfl
theorem dX7_come_37 : decode cX7_come 37 = .ok (.iload_n 1, 1) := of_row (r := (37, .iload_n 1, 1)) DX7_come_b0 20 rfl
theorem dX7_come_38 : decode cX7_come 38 = .ok (.invokevirtual 316, 3) := of_row (r := (38, .invokevirtual 316, 3)) DX7_come_b0 21 rfl
theorem dX7_come_41 : decode cX7_come 41 = .ok (.istore_n 3, 1) := of_row (r := (41, .istore_n 3, 1)) DX7_come_b0 22 rfl
theorem dX7_come_42 : decode cX7_come 42 = .ok (.aload_n 0, 1) := of_row (r := (42, .aload_n 0, 1)) DX7_come_b0 23 rfl
theorem dX7_come_43 : decode cX7_come 43 = .ok (.getfield 319, 3) := of_row (r := (43, .getfield 319, 3)) DX7_come_b0 24 rfl
theorem dX7_come_46 : decode cX7_come 46 = .ok (.iload_n 3, 1) := of_row (r := (46, .iload_n 3, 1)) DX7_come_b0 25 rfl
theorem dX7_come_47 : decode cX7_come 47 = .ok (.iadd, 1) := of_row (r := (47, .iadd, 1)) DX7_come_b0 26 rfl
theorem dX7_come_48 : decode cX7_come 48 = .ok (.sipush 4000, 3) := of_row (r := (48, .sipush 4000, 3)) DX7_come_b0 27 rfl
theorem dX7_come_51 : decode cX7_come 51 = .ok (.if_icmp .gt 15, 3) := of_row (r := (51, .if_icmp .gt 15, 3)) DX7_come_b0 28 rfl
theorem dX7_come_54 : decode cX7_come 54 = .ok (.aload_n 0, 1) := of_row (r := (54, .aload_n 0, 1)) DX7_come_b0 29 rfl
theorem dX7_come_55 : decode cX7_come 55 = .ok (.getfield 322, 3) := of_row (r := (55, .getfield 322, 3)) DX7_come_b0 30 rfl
theorem dX7_come_58 : decode cX7_come 58 = .ok (.iload_n 3, 1) := of_row (r := (58, .iload_n 3, 1)) DX7_come_b0 31 rfl
theorem dX7_come_59 : decode cX7_come 59 = .ok (.iadd, 1) := of_row (r := (59, .iadd, 1)) DX7_come_b0 32 rfl
theorem dX7_come_60 : decode cX7_come 60 = .ok (.sipush 2000, 3) := of_row (r := (60, .sipush 2000, 3)) DX7_come_b0 33 rfl
theorem dX7_come_63 : decode cX7_come 63 = .ok (.if_icmp .le 6, 3) := of_row (r := (63, .if_icmp .le 6, 3)) DX7_come_b0 34 rfl
theorem dX7_come_66 : decode cX7_come 66 = .ok (.bipush (-3), 2) := of_row (r := (66, .bipush (-3), 2)) DX7_come_b0 35 rfl
theorem dX7_come_68 : decode cX7_come 68 = .ok (.ireturn, 1) := of_row (r := (68, .ireturn, 1)) DX7_come_b0 36 rfl
theorem dX7_come_69 : decode cX7_come 69 = .ok (.aload_n 0, 1) := of_row (r := (69, .aload_n 0, 1)) DX7_come_b0 37 rfl
theorem dX7_come_70 : decode cX7_come 70 = .ok (.getfield 79, 3) := of_row (r := (70, .getfield 79, 3)) DX7_come_b0 38 rfl
theorem dX7_come_73 : decode cX7_come 73 = .ok (.iload_n 1, 1) := of_row (r := (73, .iload_n 1, 1)) DX7_come_b0 39 rfl
theorem dX7_come_74 : decode cX7_come 74 = .ok (.aload_n 0, 1) := of_row (r := (74, .aload_n 0, 1)) DX7_come_b0 40 rfl
theorem dX7_come_75 : decode cX7_come 75 = .ok (.getfield 267, 3) := of_row (r := (75, .getfield 267, 3)) DX7_come_b0 41 rfl
theorem dX7_come_78 : decode cX7_come 78 = .ok (.iastore, 1) := of_row (r := (78, .iastore, 1)) DX7_come_b0 42 rfl
theorem dX7_come_79 : decode cX7_come 79 = .ok (.aload_n 0, 1) := of_row (r := (79, .aload_n 0, 1)) DX7_come_b0 43 rfl
theorem dX7_come_80 : decode cX7_come 80 = .ok (.dup, 1) := of_row (r := (80, .dup, 1)) DX7_come_b0 44 rfl
theorem dX7_come_81 : decode cX7_come 81 = .ok (.getfield 325, 3) := of_row (r := (81, .getfield 325, 3)) DX7_come_b0 45 rfl
theorem dX7_come_84 : decode cX7_come 84 = .ok (.iload_n 2, 1) := of_row (r := (84, .iload_n 2, 1)) DX7_come_b0 46 rfl
theorem dX7_come_85 : decode cX7_come 85 = .ok (.i2l, 1) := of_row (r := (85, .i2l, 1)) DX7_come_b0 47 rfl
theorem dX7_come_86 : decode cX7_come 86 = .ok (.ladd, 1) := of_row (r := (86, .ladd, 1)) DX7_come_b0 48 rfl
theorem dX7_come_87 : decode cX7_come 87 = .ok (.putfield 325, 3) := of_row (r := (87, .putfield 325, 3)) DX7_come_b0 49 rfl
theorem dX7_come_90 : decode cX7_come 90 = .ok (.iload_n 2, 1) := of_row (r := (90, .iload_n 2, 1)) DX7_come_b0 50 rfl
theorem dX7_come_91 : decode cX7_come 91 = .ok (.i2l, 1) := of_row (r := (91, .i2l, 1)) DX7_come_b0 51 rfl
theorem dX7_come_92 : decode cX7_come 92 = .ok (.aload_n 0, 1) := of_row (r := (92, .aload_n 0, 1)) DX7_come_b0 52 rfl
theorem dX7_come_93 : decode cX7_come 93 = .ok (.getfield 71, 3) := of_row (r := (93, .getfield 71, 3)) DX7_come_b0 53 rfl
theorem dX7_come_96 : decode cX7_come 96 = .ok (.iload_n 1, 1) := of_row (r := (96, .iload_n 1, 1)) DX7_come_b0 54 rfl
theorem dX7_come_97 : decode cX7_come 97 = .ok (.laload, 1) := of_row (r := (97, .laload, 1)) DX7_come_b0 55 rfl
theorem dX7_come_98 : decode cX7_come 98 = .ok (.ladd, 1) := of_row (r := (98, .ladd, 1)) DX7_come_b0 56 rfl
theorem dX7_come_99 : decode cX7_come 99 = .ok (.lstore 4, 2) := of_row (r := (99, .lstore 4, 2)) DX7_come_b0 57 rfl
theorem dX7_come_101 : decode cX7_come 101 = .ok (.aload_n 0, 1) := of_row (r := (101, .aload_n 0, 1)) DX7_come_b0 58 rfl
theorem dX7_come_102 : decode cX7_come 102 = .ok (.getfield 71, 3) := of_row (r := (102, .getfield 71, 3)) DX7_come_b0 59 rfl
set_option maxRecDepth 20000 in
theorem DX7_come_b1 : ([(105, .iload_n 1, 1), (106, .lconst 0, 1), (107, .lastore, 1), (108, .lconst 0, 1), (109, .lstore 6, 2), (111, .aload_n 0, 1), (112, .aload_n 0, 1), (113, .getfield 267, 3), (116, .invokevirtual 273, 3), (119, .istore 8, 2), (121, .iconst 0, 1), (122, .istore 9, 2), (124, .iconst 0, 1), (125, .istore 10, 2), (127, .iload 10, 2), (129, .aload_n 0, 1), (130, .getfield 277, 3), (133, .if_icmp .ge 42, 3), (136, .aload_n 0, 1), (137, .getfield 115, 3), (140, .iload 10, 2), (142, .aload_n 0, 1), (143, .getfield 50, 3), (146, .iload 10, 2), (148, .iaload, 1), (149, .iload_n 1, 1), (150, .if_icmp .ne 17, 3), (153, .aload_n 0, 1), (154, .getfield 59, 3), (157, .iload 10, 2), (159, .iaload, 1), (160, .ifCond .le 7, 3), (163, .iconst 1, 1), (164, .goto 4, 3), (167, .iconst 0, 1), (168, .bastore, 1), (169, .iinc 10 1, 3), (172, .goto (-45), 3), (175, .iconst 0, 1), (176, .istore 10, 2), (178, .iload 10, 2), (180, .aload_n 0, 1), (181, .getfield 277, 3), (184, .if_icmp .ge 77, 3), (187, .aload_n 0, 1), (188, .getfield 115, 3), (191, .iload 10, 2), (193, .baload, 1), (194, .ifCond .eq 61, 3), (197, .aload_n 0, 1), (198, .getfield 50, 3), (201, .iload 10, 2), (203, .iaload, 1), (204, .iload_n 1, 1), (205, .if_icmp .ne 50, 3), (208, .aload_n 0, 1), (209, .getfield 59, 3), (212, .iload 10, 2), (214, .iaload, 1), (215, .ifCond .ne 6, 3)] : List (Nat × Instr × Nat)).all (fun r => decide (decode cX7_come r.1 = .ok r.2)) = true := by decide +kernel
theorem dX7_come_105 : decode cX7_come 105 = .ok (.iload_n 1, 1) := of_row (r := (105, .iload_n 1, 1)) DX7_come_b1 0 rfl
theorem dX7_come_106 : decode cX7_come 106 = .ok (.lconst 0, 1) := of_row (r := (106, .lconst 0, 1)) DX7_come_b1 1 rfl
theorem dX7_come_107 : decode cX7_come 107 = .ok (.lastore, 1) := of_row (r := (107, .lastore, 1)) DX7_come_b1 2 rfl
theorem dX7_come_108 : decode cX7_come 108 = .ok (.lconst 0, 1) := of_row (r := (108, .lconst 0, 1)) DX7_come_b1 3 rfl
theorem dX7_come_109 : decode cX7_come 109 = .ok (.lstore 6, 2) := of_row (r := (109, .lstore 6, 2)) DX7_come_b1 4 rfl
theorem dX7_come_111 : decode cX7_come 111 = .ok (.aload_n 0, 1) := of_row (r := (111, .aload_n 0, 1)) DX7_come_b1 5 rfl
theorem dX7_come_112 : decode cX7_come 112 = .ok (.aload_n 0, 1) := of_row (r := (112, .aload_n 0, 1)) DX7_come_b1 6 rfl
theorem dX7_come_113 : decode cX7_come 113 = .ok (.getfield 267, 3) := of_row (r := (113, .getfield 267, 3)) DX7_come_b1 7 rfl
theorem dX7_come_116 : decode cX7_come 116 = .ok (.invokevirtual 273, 3) := of_row (r := (116, .invokevirtual 273, 3)) DX7_come_b1 8 rfl
theorem dX7_come_119 : decode cX7_come 119 = .ok (.istore 8, 2) := of_row (r := (119, .istore 8, 2)) DX7_come_b1 9 rfl
theorem dX7_come_121 : decode cX7_come 121 = .ok (.iconst 0, 1) := of_row (r := (121, .iconst 0, 1)) DX7_come_b1 10 rfl
theorem dX7_come_122 : decode cX7_come 122 = .ok (.istore 9, 2) := of_row (r := (122, .istore 9, 2)) DX7_come_b1 11 rfl
theorem dX7_come_124 : decode cX7_come 124 = .ok (.iconst 0, 1) := of_row (r := (124, .iconst 0, 1)) DX7_come_b1 12 rfl
theorem dX7_come_125 : decode cX7_come 125 = .ok (.istore 10, 2) := of_row (r := (125, .istore 10, 2)) DX7_come_b1 13 rfl
theorem dX7_come_127 : decode cX7_come 127 = .ok (.iload 10, 2) := of_row (r := (127, .iload 10, 2)) DX7_come_b1 14 rfl
theorem dX7_come_129 : decode cX7_come 129 = .ok (.aload_n 0, 1) := of_row (r := (129, .aload_n 0, 1)) DX7_come_b1 15 rfl
theorem dX7_come_130 : decode cX7_come 130 = .ok (.getfield 277, 3) := of_row (r := (130, .getfield 277, 3)) DX7_come_b1 16 rfl
theorem dX7_come_133 : decode cX7_come 133 = .ok (.if_icmp .ge 42, 3) := of_row (r := (133, .if_icmp .ge 42, 3)) DX7_come_b1 17 rfl
theorem dX7_come_136 : decode cX7_come 136 = .ok (.aload_n 0, 1) := of_row (r := (136, .aload_n 0, 1)) DX7_come_b1 18 rfl
theorem dX7_come_137 : decode cX7_come 137 = .ok (.getfield 115, 3) := of_row (r := (137, .getfield 115, 3)) DX7_come_b1 19 rfl
theorem dX7_come_140 : decode cX7_come 140 = .ok (.iload 10, 2) := of_row (r := (140, .iload 10, 2)) DX7_come_b1 20 rfl
theorem dX7_come_142 : decode cX7_come 142 = .ok (.aload_n 0, 1) := of_row (r := (142, .aload_n 0, 1)) DX7_come_b1 21 rfl
theorem dX7_come_143 : decode cX7_come 143 = .ok (.getfield 50, 3) := of_row (r := (143, .getfield 50, 3)) DX7_come_b1 22 rfl
theorem dX7_come_146 : decode cX7_come 146 = .ok (.iload 10, 2) := of_row (r := (146, .iload 10, 2)) DX7_come_b1 23 rfl
theorem dX7_come_148 : decode cX7_come 148 = .ok (.iaload, 1) := of_row (r := (148, .iaload, 1)) DX7_come_b1 24 rfl
theorem dX7_come_149 : decode cX7_come 149 = .ok (.iload_n 1, 1) := of_row (r := (149, .iload_n 1, 1)) DX7_come_b1 25 rfl
theorem dX7_come_150 : decode cX7_come 150 = .ok (.if_icmp .ne 17, 3) := of_row (r := (150, .if_icmp .ne 17, 3)) DX7_come_b1 26 rfl
theorem dX7_come_153 : decode cX7_come 153 = .ok (.aload_n 0, 1) := of_row (r := (153, .aload_n 0, 1)) DX7_come_b1 27 rfl
theorem dX7_come_154 : decode cX7_come 154 = .ok (.getfield 59, 3) := of_row (r := (154, .getfield 59, 3)) DX7_come_b1 28 rfl
theorem dX7_come_157 : decode cX7_come 157 = .ok (.iload 10, 2) := of_row (r := (157, .iload 10, 2)) DX7_come_b1 29 rfl
theorem dX7_come_159 : decode cX7_come 159 = .ok (.iaload, 1) := of_row (r := (159, .iaload, 1)) DX7_come_b1 30 rfl
theorem dX7_come_160 : decode cX7_come 160 = .ok (.ifCond .le 7, 3) := of_row (r := (160, .ifCond .le 7, 3)) DX7_come_b1 31 rfl
theorem dX7_come_163 : decode cX7_come 163 = .ok (.iconst 1, 1) := of_row (r := (163, .iconst 1, 1)) DX7_come_b1 32 rfl
theorem dX7_come_164 : decode cX7_come 164 = .ok (.goto 4, 3) := of_row (r := (164, .goto 4, 3)) DX7_come_b1 33 rfl
theorem dX7_come_167 : decode cX7_come 167 = .ok (.iconst 0, 1) := of_row (r := (167, .iconst 0, 1)) DX7_come_b1 34 rfl
theorem dX7_come_168 : decode cX7_come 168 = .ok (.bastore, 1) := of_row (r := (168, .bastore, 1)) DX7_come_b1 35 rfl
theorem dX7_come_169 : decode cX7_come 169 = .ok (.iinc 10 1, 3) := of_row (r := (169, .iinc 10 1, 3)) DX7_come_b1 36 rfl
theorem dX7_come_172 : decode cX7_come 172 = .ok (.goto (-45), 3) := of_row (r := (172, .goto (-45), 3)) DX7_come_b1 37 rfl
theorem dX7_come_175 : decode cX7_come 175 = .ok (.iconst 0, 1) := of_row (r := (175, .iconst 0, 1)) DX7_come_b1 38 rfl
theorem dX7_come_176 : decode cX7_come 176 = .ok (.istore 10, 2) := of_row (r := (176, .istore 10, 2)) DX7_come_b1 39 rfl
theorem dX7_come_178 : decode cX7_come 178 = .ok (.iload 10, 2) := of_row (r := (178, .iload 10, 2)) DX7_come_b1 40 rfl
theorem dX7_come_180 : decode cX7_come 180 = .ok (.aload_n 0, 1) := of_row (r := (180, .aload_n 0, 1)) DX7_come_b1 41 rfl
theorem dX7_come_181 : decode cX7_come 181 = .ok (.getfield 277, 3) := of_row (r := (181, .getfield 277, 3)) DX7_come_b1 42 rfl
theorem dX7_come_184 : decode cX7_come 184 = .ok (.if_icmp .ge 77, 3) := of_row (r := (184, .if_icmp .ge 77, 3)) DX7_come_b1 43 rfl
theorem dX7_come_187 : decode cX7_come 187 = .ok (.aload_n 0, 1) := of_row (r := (187, .aload_n 0, 1)) DX7_come_b1 44 rfl
theorem dX7_come_188 : decode cX7_come 188 = .ok (.getfield 115, 3) := of_row (r := (188, .getfield 115, 3)) DX7_come_b1 45 rfl
theorem dX7_come_191 : decode cX7_come 191 = .ok (.iload 10, 2) := of_row (r := (191, .iload 10, 2)) DX7_come_b1 46 rfl
theorem dX7_come_193 : decode cX7_come 193 = .ok (.baload, 1) := of_row (r := (193, .baload, 1)) DX7_come_b1 47 rfl
theorem dX7_come_194 : decode cX7_come 194 = .ok (.ifCond .eq 61, 3) := of_row (r := (194, .ifCond .eq 61, 3)) DX7_come_b1 48 rfl
theorem dX7_come_197 : decode cX7_come 197 = .ok (.aload_n 0, 1) := of_row (r := (197, .aload_n 0, 1)) DX7_come_b1 49 rfl
theorem dX7_come_198 : decode cX7_come 198 = .ok (.getfield 50, 3) := of_row (r := (198, .getfield 50, 3)) DX7_come_b1 50 rfl
theorem dX7_come_201 : decode cX7_come 201 = .ok (.iload 10, 2) := of_row (r := (201, .iload 10, 2)) DX7_come_b1 51 rfl
theorem dX7_come_203 : decode cX7_come 203 = .ok (.iaload, 1) := of_row (r := (203, .iaload, 1)) DX7_come_b1 52 rfl
theorem dX7_come_204 : decode cX7_come 204 = .ok (.iload_n 1, 1) := of_row (r := (204, .iload_n 1, 1)) DX7_come_b1 53 rfl
theorem dX7_come_205 : decode cX7_come 205 = .ok (.if_icmp .ne 50, 3) := of_row (r := (205, .if_icmp .ne 50, 3)) DX7_come_b1 54 rfl
theorem dX7_come_208 : decode cX7_come 208 = .ok (.aload_n 0, 1) := of_row (r := (208, .aload_n 0, 1)) DX7_come_b1 55 rfl
theorem dX7_come_209 : decode cX7_come 209 = .ok (.getfield 59, 3) := of_row (r := (209, .getfield 59, 3)) DX7_come_b1 56 rfl
theorem dX7_come_212 : decode cX7_come 212 = .ok (.iload 10, 2) := of_row (r := (212, .iload 10, 2)) DX7_come_b1 57 rfl
theorem dX7_come_214 : decode cX7_come 214 = .ok (.iaload, 1) := of_row (r := (214, .iaload, 1)) DX7_come_b1 58 rfl
theorem dX7_come_215 : decode cX7_come 215 = .ok (.ifCond .ne 6, 3) := of_row (r := (215, .ifCond .ne 6, 3)) DX7_come_b1 59 rfl
set_option maxRecDepth 20000 in
theorem DX7_come_b2 : ([(218, .goto 37, 3), (221, .aload_n 0, 1), (222, .iload_n 1, 1), (223, .iload 10, 2), (225, .iload 8, 2), (227, .lload 4, 2), (229, .lload 6, 2), (231, .invokevirtual 329, 3), (234, .istore 11, 2), (236, .lload 4, 2), (238, .iload 11, 2), (240, .i2l, 1), (241, .lsub, 1), (242, .lstore 4, 2), (244, .lload 6, 2), (246, .iload 11, 2), (248, .i2l, 1), (249, .ladd, 1), (250, .lstore 6, 2), (252, .iinc 9 1, 3), (255, .iinc 10 1, 3), (258, .goto (-80), 3), (261, .aload_n 0, 1), (262, .getfield 71, 3), (265, .iload_n 1, 1), (266, .dup2, 1), (267, .laload, 1), (268, .lload 4, 2), (270, .ladd, 1), (271, .lastore, 1), (272, .iload 9, 2), (274, .ireturn, 1)] : List (Nat × Instr × Nat)).all (fun r => decide (decode cX7_come r.1 = .ok r.2)) = true := by decide +kernel
theorem dX7_come_218 : decode cX7_come 218 = .ok (.goto 37, 3) := of_row (r := (218, .goto 37, 3)) DX7_come_b2 0 rfl
theorem dX7_come_221 : decode cX7_come 221 = .ok (.aload_n 0, 1) := of_row (r := (221, .aload_n 0, 1)) DX7_come_b2 1 rfl
theorem dX7_come_222 : decode cX7_come 222 = .ok (.iload_n 1, 1) := of_row (r := (222, .iload_n 1, 1)) DX7_come_b2 2 rfl
theorem dX7_come_223 : decode cX7_come 223 = .ok (.iload 10, 2) := of_row (r := (223, .iload 10, 2)) DX7_come_b2 3 rfl
theorem dX7_come_225 : decode cX7_come 225 = .ok (.iload 8, 2) := of_row (r := (225, .iload 8, 2)) DX7_come_b2 4 rfl
theorem dX7_come_227 : decode cX7_come 227 = .ok (.lload 4, 2) := of_row (r := (227, .lload 4, 2)) DX7_come_b2 5 rfl
theorem dX7_come_229 : decode cX7_come 229 = .ok (.lload 6, 2) := of_row (r := (229, .lload 6, 2)) DX7_come_b2 6 rfl
theorem dX7_come_231 : decode cX7_come 231 = .ok (.invokevirtual 329, 3) := of_row (r := (231, .invokevirtual 329, 3)) DX7_come_b2 7 rfl
theorem dX7_come_234 : decode cX7_come 234 = .ok (.istore 11, 2) := of_row (r := (234, .istore 11, 2)) DX7_come_b2 8 rfl
theorem dX7_come_236 : decode cX7_come 236 = .ok (.lload 4, 2) := of_row (r := (236, .lload 4, 2)) DX7_come_b2 9 rfl
theorem dX7_come_238 : decode cX7_come 238 = .ok (.iload 11, 2) := of_row (r := (238, .iload 11, 2)) DX7_come_b2 10 rfl
theorem dX7_come_240 : decode cX7_come 240 = .ok (.i2l, 1) := of_row (r := (240, .i2l, 1)) DX7_come_b2 11 rfl
theorem dX7_come_241 : decode cX7_come 241 = .ok (.lsub, 1) := of_row (r := (241, .lsub, 1)) DX7_come_b2 12 rfl
theorem dX7_come_242 : decode cX7_come 242 = .ok (.lstore 4, 2) := of_row (r := (242, .lstore 4, 2)) DX7_come_b2 13 rfl
theorem dX7_come_244 : decode cX7_come 244 = .ok (.lload 6, 2) := of_row (r := (244, .lload 6, 2)) DX7_come_b2 14 rfl
theorem dX7_come_246 : decode cX7_come 246 = .ok (.iload 11, 2) := of_row (r := (246, .iload 11, 2)) DX7_come_b2 15 rfl
theorem dX7_come_248 : decode cX7_come 248 = .ok (.i2l, 1) := of_row (r := (248, .i2l, 1)) DX7_come_b2 16 rfl
theorem dX7_come_249 : decode cX7_come 249 = .ok (.ladd, 1) := of_row (r := (249, .ladd, 1)) DX7_come_b2 17 rfl
theorem dX7_come_250 : decode cX7_come 250 = .ok (.lstore 6, 2) := of_row (r := (250, .lstore 6, 2)) DX7_come_b2 18 rfl
theorem dX7_come_252 : decode cX7_come 252 = .ok (.iinc 9 1, 3) := of_row (r := (252, .iinc 9 1, 3)) DX7_come_b2 19 rfl
theorem dX7_come_255 : decode cX7_come 255 = .ok (.iinc 10 1, 3) := of_row (r := (255, .iinc 10 1, 3)) DX7_come_b2 20 rfl
theorem dX7_come_258 : decode cX7_come 258 = .ok (.goto (-80), 3) := of_row (r := (258, .goto (-80), 3)) DX7_come_b2 21 rfl
theorem dX7_come_261 : decode cX7_come 261 = .ok (.aload_n 0, 1) := of_row (r := (261, .aload_n 0, 1)) DX7_come_b2 22 rfl
theorem dX7_come_262 : decode cX7_come 262 = .ok (.getfield 71, 3) := of_row (r := (262, .getfield 71, 3)) DX7_come_b2 23 rfl
theorem dX7_come_265 : decode cX7_come 265 = .ok (.iload_n 1, 1) := of_row (r := (265, .iload_n 1, 1)) DX7_come_b2 24 rfl
theorem dX7_come_266 : decode cX7_come 266 = .ok (.dup2, 1) := of_row (r := (266, .dup2, 1)) DX7_come_b2 25 rfl
theorem dX7_come_267 : decode cX7_come 267 = .ok (.laload, 1) := of_row (r := (267, .laload, 1)) DX7_come_b2 26 rfl
theorem dX7_come_268 : decode cX7_come 268 = .ok (.lload 4, 2) := of_row (r := (268, .lload 4, 2)) DX7_come_b2 27 rfl
theorem dX7_come_270 : decode cX7_come 270 = .ok (.ladd, 1) := of_row (r := (270, .ladd, 1)) DX7_come_b2 28 rfl
theorem dX7_come_271 : decode cX7_come 271 = .ok (.lastore, 1) := of_row (r := (271, .lastore, 1)) DX7_come_b2 29 rfl
theorem dX7_come_272 : decode cX7_come 272 = .ok (.iload 9, 2) := of_row (r := (272, .iload 9, 2)) DX7_come_b2 30 rfl
theorem dX7_come_274 : decode cX7_come 274 = .ok (.ireturn, 1) := of_row (r := (274, .ireturn, 1)) DX7_come_b2 31 rfl
set_option maxRecDepth 20000 in
theorem DX7_ask_b0 : ([(0, .aload_n 0, 1), (1, .iload_n 3, 1), (2, .iload_n 2, 1), (3, .lload 4, 2), (5, .lload 6, 2), (7, .invokevirtual 312, 3), (10, .istore 8, 2), (12, .bipush 40, 2), (14, .iload_n 3, 1), (15, .imul, 1), (16, .iload 8, 2), (18, .iadd, 1), (19, .istore 9, 2), (21, .iload 8, 2), (23, .ifCond .ge 7, 3), (26, .iconst 2, 1), (27, .goto 41, 3), (30, .aload_n 0, 1), (31, .getfield 17, 3), (34, .iload 9, 2), (36, .iaload, 1), (37, .ifCond .ne 7, 3), (40, .iconst 0, 1), (41, .goto 27, 3), (44, .aload_n 0, 1), (45, .getfield 17, 3), (48, .iload 9, 2), (50, .iaload, 1), (51, .iconst 5, 1), (52, .if_icmp .ne 7, 3), (55, .iconst 1, 1), (56, .goto 12, 3), (59, .aload_n 0, 1), (60, .getfield 17, 3), (63, .iload 9, 2), (65, .iaload, 1), (66, .iconst 1, 1), (67, .iadd, 1), (68, .istore 10, 2), (70, .iload 10, 2), (72, .ifCond .ne 13, 3), (75, .aload_n 0, 1), (76, .getfield 59, 3), (79, .iload_n 2, 1), (80, .iaload, 1), (81, .i2l, 1), (82, .goto 33, 3), (85, .iload 10, 2), (87, .iconst 1, 1), (88, .if_icmp .ne 26, 3), (91, .aload_n 0, 1), (92, .getfield 59, 3), (95, .iload_n 2, 1), (96, .iaload, 1), (97, .i2l, 1), (98, .aload_n 0, 1), (99, .getfield 20, 3), (102, .iload 9, 2), (104, .iaload, 1), (105, .i2l, 1)] : List (Nat × Instr × Nat)).all (fun r => decide (decode cX7_ask r.1 = .ok r.2)) = true := by decide +kernel
theorem dX7_ask_0 : decode cX7_ask 0 = .ok (.aload_n 0, 1) := of_row (r := (0, .aload_n 0, 1)) DX7_ask_b0 0 rfl
theorem dX7_ask_1 : decode cX7_ask 1 = .ok (.iload_n 3, 1) := of_row (r := (1, .iload_n 3, 1)) DX7_ask_b0 1 rfl
theorem dX7_ask_2 : decode cX7_ask 2 = .ok (.iload_n 2, 1) := of_row (r := (2, .iload_n 2, 1)) DX7_ask_b0 2 rfl
theorem dX7_ask_3 : decode cX7_ask 3 = .ok (.lload 4, 2) := of_row (r := (3, .lload 4, 2)) DX7_ask_b0 3 rfl
theorem dX7_ask_5 : decode cX7_ask 5 = .ok (.lload 6, 2) := of_row (r := (5, .lload 6, 2)) DX7_ask_b0 4 rfl
theorem dX7_ask_7 : decode cX7_ask 7 = .ok (.invokevirtual 312, 3) := of_row (r := (7, .invokevirtual 312, 3)) DX7_ask_b0 5 rfl
theorem dX7_ask_10 : decode cX7_ask 10 = .ok (.istore 8, 2) := of_row (r := (10, .istore 8, 2)) DX7_ask_b0 6 rfl
theorem dX7_ask_12 : decode cX7_ask 12 = .ok (.bipush 40, 2) := of_row (r := (12, .bipush 40, 2)) DX7_ask_b0 7 rfl
theorem dX7_ask_14 : decode cX7_ask 14 = .ok (.iload_n 3, 1) := of_row (r := (14, .iload_n 3, 1)) DX7_ask_b0 8 rfl
theorem dX7_ask_15 : decode cX7_ask 15 = .ok (.imul, 1) := of_row (r := (15, .imul, 1)) DX7_ask_b0 9 rfl
theorem dX7_ask_16 : decode cX7_ask 16 = .ok (.iload 8, 2) := of_row (r := (16, .iload 8, 2)) DX7_ask_b0 10 rfl
theorem dX7_ask_18 : decode cX7_ask 18 = .ok (.iadd, 1) := of_row (r := (18, .iadd, 1)) DX7_ask_b0 11 rfl
theorem dX7_ask_19 : decode cX7_ask 19 = .ok (.istore 9, 2) := of_row (r := (19, .istore 9, 2)) DX7_ask_b0 12 rfl
theorem dX7_ask_21 : decode cX7_ask 21 = .ok (.iload 8, 2) := of_row (r := (21, .iload 8, 2)) DX7_ask_b0 13 rfl
theorem dX7_ask_23 : decode cX7_ask 23 = .ok (.ifCond .ge 7, 3) := of_row (r := (23, .ifCond .ge 7, 3)) DX7_ask_b0 14 rfl
theorem dX7_ask_26 : decode cX7_ask 26 = .ok (.iconst 2, 1) := of_row (r := (26, .iconst 2, 1)) DX7_ask_b0 15 rfl
theorem dX7_ask_27 : decode cX7_ask 27 = .ok (.goto 41, 3) := of_row (r := (27, .goto 41, 3)) DX7_ask_b0 16 rfl
theorem dX7_ask_30 : decode cX7_ask 30 = .ok (.aload_n 0, 1) := of_row (r := (30, .aload_n 0, 1)) DX7_ask_b0 17 rfl
theorem dX7_ask_31 : decode cX7_ask 31 = .ok (.getfield 17, 3) := of_row (r := (31, .getfield 17, 3)) DX7_ask_b0 18 rfl
theorem dX7_ask_34 : decode cX7_ask 34 = .ok (.iload 9, 2) := of_row (r := (34, .iload 9, 2)) DX7_ask_b0 19 rfl
theorem dX7_ask_36 : decode cX7_ask 36 = .ok (.iaload, 1) := of_row (r := (36, .iaload, 1)) DX7_ask_b0 20 rfl
theorem dX7_ask_37 : decode cX7_ask 37 = .ok (.ifCond .ne 7, 3) := of_row (r := (37, .ifCond .ne 7, 3)) DX7_ask_b0 21 rfl
theorem dX7_ask_40 : decode cX7_ask 40 = .ok (.iconst 0, 1) := of_row (r := (40, .iconst 0, 1)) DX7_ask_b0 22 rfl
theorem dX7_ask_41 : decode cX7_ask 41 = .ok (.goto 27, 3) := of_row (r := (41, .goto 27, 3)) DX7_ask_b0 23 rfl
theorem dX7_ask_44 : decode cX7_ask 44 = .ok (.aload_n 0, 1) := of_row (r := (44, .aload_n 0, 1)) DX7_ask_b0 24 rfl
theorem dX7_ask_45 : decode cX7_ask 45 = .ok (.getfield 17, 3) := of_row (r := (45, .getfield 17, 3)) DX7_ask_b0 25 rfl
theorem dX7_ask_48 : decode cX7_ask 48 = .ok (.iload 9, 2) := of_row (r := (48, .iload 9, 2)) DX7_ask_b0 26 rfl
theorem dX7_ask_50 : decode cX7_ask 50 = .ok (.iaload, 1) := of_row (r := (50, .iaload, 1)) DX7_ask_b0 27 rfl
theorem dX7_ask_51 : decode cX7_ask 51 = .ok (.iconst 5, 1) := of_row (r := (51, .iconst 5, 1)) DX7_ask_b0 28 rfl
theorem dX7_ask_52 : decode cX7_ask 52 = .ok (.if_icmp .ne 7, 3) := of_row (r := (52, .if_icmp .ne 7, 3)) DX7_ask_b0 29 rfl
theorem dX7_ask_55 : decode cX7_ask 55 = .ok (.iconst 1, 1) := of_row (r := (55, .iconst 1, 1)) DX7_ask_b0 30 rfl
theorem dX7_ask_56 : decode cX7_ask 56 = .ok (.goto 12, 3) := of_row (r := (56, .goto 12, 3)) DX7_ask_b0 31 rfl
theorem dX7_ask_59 : decode cX7_ask 59 = .ok (.aload_n 0, 1) := of_row (r := (59, .aload_n 0, 1)) DX7_ask_b0 32 rfl
theorem dX7_ask_60 : decode cX7_ask 60 = .ok (.getfield 17, 3) := of_row (r := (60, .getfield 17, 3)) DX7_ask_b0 33 rfl
theorem dX7_ask_63 : decode cX7_ask 63 = .ok (.iload 9, 2) := of_row (r := (63, .iload 9, 2)) DX7_ask_b0 34 rfl
theorem dX7_ask_65 : decode cX7_ask 65 = .ok (.iaload, 1) := of_row (r := (65, .iaload, 1)) DX7_ask_b0 35 rfl
theorem dX7_ask_66 : decode cX7_ask 66 = .ok (.iconst 1, 1) := of_row (r := (66, .iconst 1, 1)) DX7_ask_b0 36 rfl
theorem dX7_ask_67 : decode cX7_ask 67 = .ok (.iadd, 1) := of_row (r := (67, .iadd, 1)) DX7_ask_b0 37 rfl
theorem dX7_ask_68 : decode cX7_ask 68 = .ok (.istore 10, 2) := of_row (r := (68, .istore 10, 2)) DX7_ask_b0 38 rfl
theorem dX7_ask_70 : decode cX7_ask 70 = .ok (.iload 10, 2) := of_row (r := (70, .iload 10, 2)) DX7_ask_b0 39 rfl
theorem dX7_ask_72 : decode cX7_ask 72 = .ok (.ifCond .ne 13, 3) := of_row (r := (72, .ifCond .ne 13, 3)) DX7_ask_b0 40 rfl
theorem dX7_ask_75 : decode cX7_ask 75 = .ok (.aload_n 0, 1) := of_row (r := (75, .aload_n 0, 1)) DX7_ask_b0 41 rfl
theorem dX7_ask_76 : decode cX7_ask 76 = .ok (.getfield 59, 3) := of_row (r := (76, .getfield 59, 3)) DX7_ask_b0 42 rfl
theorem dX7_ask_79 : decode cX7_ask 79 = .ok (.iload_n 2, 1) := of_row (r := (79, .iload_n 2, 1)) DX7_ask_b0 43 rfl
theorem dX7_ask_80 : decode cX7_ask 80 = .ok (.iaload, 1) := of_row (r := (80, .iaload, 1)) DX7_ask_b0 44 rfl
theorem dX7_ask_81 : decode cX7_ask 81 = .ok (.i2l, 1) := of_row (r := (81, .i2l, 1)) DX7_ask_b0 45 rfl
theorem dX7_ask_82 : decode cX7_ask 82 = .ok (.goto 33, 3) := of_row (r := (82, .goto 33, 3)) DX7_ask_b0 46 rfl
theorem dX7_ask_85 : decode cX7_ask 85 = .ok (.iload 10, 2) := of_row (r := (85, .iload 10, 2)) DX7_ask_b0 47 rfl
theorem dX7_ask_87 : decode cX7_ask 87 = .ok (.iconst 1, 1) := of_row (r := (87, .iconst 1, 1)) DX7_ask_b0 48 rfl
theorem dX7_ask_88 : decode cX7_ask 88 = .ok (.if_icmp .ne 26, 3) := of_row (r := (88, .if_icmp .ne 26, 3)) DX7_ask_b0 49 rfl
theorem dX7_ask_91 : decode cX7_ask 91 = .ok (.aload_n 0, 1) := of_row (r := (91, .aload_n 0, 1)) DX7_ask_b0 50 rfl
theorem dX7_ask_92 : decode cX7_ask 92 = .ok (.getfield 59, 3) := of_row (r := (92, .getfield 59, 3)) DX7_ask_b0 51 rfl
theorem dX7_ask_95 : decode cX7_ask 95 = .ok (.iload_n 2, 1) := of_row (r := (95, .iload_n 2, 1)) DX7_ask_b0 52 rfl
theorem dX7_ask_96 : decode cX7_ask 96 = .ok (.iaload, 1) := of_row (r := (96, .iaload, 1)) DX7_ask_b0 53 rfl
theorem dX7_ask_97 : decode cX7_ask 97 = .ok (.i2l, 1) := of_row (r := (97, .i2l, 1)) DX7_ask_b0 54 rfl
theorem dX7_ask_98 : decode cX7_ask 98 = .ok (.aload_n 0, 1) := of_row (r := (98, .aload_n 0, 1)) DX7_ask_b0 55 rfl
theorem dX7_ask_99 : decode cX7_ask 99 = .ok (.getfield 20, 3) := of_row (r := (99, .getfield 20, 3)) DX7_ask_b0 56 rfl
theorem dX7_ask_102 : decode cX7_ask 102 = .ok (.iload 9, 2) := of_row (r := (102, .iload 9, 2)) DX7_ask_b0 57 rfl
theorem dX7_ask_104 : decode cX7_ask 104 = .ok (.iaload, 1) := of_row (r := (104, .iaload, 1)) DX7_ask_b0 58 rfl
theorem dX7_ask_105 : decode cX7_ask 105 = .ok (.i2l, 1) := of_row (r := (105, .i2l, 1)) DX7_ask_b0 59 rfl
set_option maxRecDepth 20000 in
theorem DX7_ask_b1 : ([(106, .lmul, 1), (107, .ldc2_w 333, 3), (110, .ldiv, 1), (111, .goto 4, 3), (114, .lconst 0, 1), (115, .lstore 11, 2), (117, .lload 11, 2), (119, .lload 4, 2), (121, .lcmp, 1), (122, .ifCond .ge 8, 3), (125, .lload 11, 2), (127, .goto 5, 3), (130, .lload 4, 2), (132, .l2i, 1), (133, .istore 13, 2), (135, .aload_n 0, 1), (136, .getfield 319, 3), (139, .istore 14, 2), (141, .aload_n 0, 1), (142, .getfield 85, 3), (145, .iload 14, 2), (147, .aload_n 0, 1), (148, .getfield 267, 3), (151, .iastore, 1), (152, .aload_n 0, 1), (153, .getfield 88, 3), (156, .iload 14, 2), (158, .iload_n 1, 1), (159, .iastore, 1), (160, .aload_n 0, 1), (161, .getfield 91, 3), (164, .iload 14, 2), (166, .iload_n 2, 1), (167, .iastore, 1), (168, .aload_n 0, 1), (169, .getfield 94, 3), (172, .iload 14, 2), (174, .iload 10, 2), (176, .iastore, 1), (177, .aload_n 0, 1), (178, .getfield 97, 3), (181, .iload 14, 2), (183, .iload 13, 2), (185, .iastore, 1), (186, .aload_n 0, 1), (187, .getfield 100, 3), (190, .iload 14, 2), (192, .iload 8, 2), (194, .ifCond .ge 7, 3), (197, .iconst (-1), 1), (198, .goto 5, 3), (201, .iload 8, 2), (203, .iastore, 1), (204, .aload_n 0, 1), (205, .getfield 103, 3), (208, .iload 14, 2), (210, .iload_n 3, 1), (211, .iastore, 1), (212, .aload_n 0, 1), (213, .getfield 106, 3)] : List (Nat × Instr × Nat)).all (fun r => decide (decode cX7_ask r.1 = .ok r.2)) = true := by decide +kernel
theorem dX7_ask_106 : decode cX7_ask 106 = .ok (.lmul, 1) := of_row (r := (106, .lmul, 1)) DX7_ask_b1 0 rfl
theorem dX7_ask_107 : decode cX7_ask 107 = .ok (.ldc2_w 333, 3) := of_row (r := (107, .ldc2_w 333, 3)) DX7_ask_b1 1 rfl
theorem dX7_ask_110 : decode cX7_ask 110 = .ok (.ldiv, 1) := of_row (r := (110, .ldiv, 1)) DX7_ask_b1 2 rfl
theorem dX7_ask_111 : decode cX7_ask 111 = .ok (.goto 4, 3) := of_row (r := (111, .goto 4, 3)) DX7_ask_b1 3 rfl
theorem dX7_ask_114 : decode cX7_ask 114 = .ok (.lconst 0, 1) := of_row (r := (114, .lconst 0, 1)) DX7_ask_b1 4 rfl
theorem dX7_ask_115 : decode cX7_ask 115 = .ok (.lstore 11, 2) := of_row (r := (115, .lstore 11, 2)) DX7_ask_b1 5 rfl
theorem dX7_ask_117 : decode cX7_ask 117 = .ok (.lload 11, 2) := of_row (r := (117, .lload 11, 2)) DX7_ask_b1 6 rfl
theorem dX7_ask_119 : decode cX7_ask 119 = .ok (.lload 4, 2) := of_row (r := (119, .lload 4, 2)) DX7_ask_b1 7 rfl
theorem dX7_ask_121 : decode cX7_ask 121 = .ok (.lcmp, 1) := of_row (r := (121, .lcmp, 1)) DX7_ask_b1 8 rfl
theorem dX7_ask_122 : decode cX7_ask 122 = .ok (.ifCond .ge 8, 3) := of_row (r := (122, .ifCond .ge 8, 3)) DX7_ask_b1 9 rfl
theorem dX7_ask_125 : decode cX7_ask 125 = .ok (.lload 11, 2) := of_row (r := (125, .lload 11, 2)) DX7_ask_b1 10 rfl
theorem dX7_ask_127 : decode cX7_ask 127 = .ok (.goto 5, 3) := of_row (r := (127, .goto 5, 3)) DX7_ask_b1 11 rfl
theorem dX7_ask_130 : decode cX7_ask 130 = .ok (.lload 4, 2) := of_row (r := (130, .lload 4, 2)) DX7_ask_b1 12 rfl
theorem dX7_ask_132 : decode cX7_ask 132 = .ok (.l2i, 1) := of_row (r := (132, .l2i, 1)) DX7_ask_b1 13 rfl
theorem dX7_ask_133 : decode cX7_ask 133 = .ok (.istore 13, 2) := of_row (r := (133, .istore 13, 2)) DX7_ask_b1 14 rfl
theorem dX7_ask_135 : decode cX7_ask 135 = .ok (.aload_n 0, 1) := of_row (r := (135, .aload_n 0, 1)) DX7_ask_b1 15 rfl
theorem dX7_ask_136 : decode cX7_ask 136 = .ok (.getfield 319, 3) := of_row (r := (136, .getfield 319, 3)) DX7_ask_b1 16 rfl
theorem dX7_ask_139 : decode cX7_ask 139 = .ok (.istore 14, 2) := of_row (r := (139, .istore 14, 2)) DX7_ask_b1 17 rfl
theorem dX7_ask_141 : decode cX7_ask 141 = .ok (.aload_n 0, 1) := of_row (r := (141, .aload_n 0, 1)) DX7_ask_b1 18 rfl
theorem dX7_ask_142 : decode cX7_ask 142 = .ok (.getfield 85, 3) := of_row (r := (142, .getfield 85, 3)) DX7_ask_b1 19 rfl
theorem dX7_ask_145 : decode cX7_ask 145 = .ok (.iload 14, 2) := of_row (r := (145, .iload 14, 2)) DX7_ask_b1 20 rfl
theorem dX7_ask_147 : decode cX7_ask 147 = .ok (.aload_n 0, 1) := of_row (r := (147, .aload_n 0, 1)) DX7_ask_b1 21 rfl
theorem dX7_ask_148 : decode cX7_ask 148 = .ok (.getfield 267, 3) := of_row (r := (148, .getfield 267, 3)) DX7_ask_b1 22 rfl
theorem dX7_ask_151 : decode cX7_ask 151 = .ok (.iastore, 1) := of_row (r := (151, .iastore, 1)) DX7_ask_b1 23 rfl
theorem dX7_ask_152 : decode cX7_ask 152 = .ok (.aload_n 0, 1) := of_row (r := (152, .aload_n 0, 1)) DX7_ask_b1 24 rfl
theorem dX7_ask_153 : decode cX7_ask 153 = .ok (.getfield 88, 3) := of_row (r := (153, .getfield 88, 3)) DX7_ask_b1 25 rfl
theorem dX7_ask_156 : decode cX7_ask 156 = .ok (.iload 14, 2) := of_row (r := (156, .iload 14, 2)) DX7_ask_b1 26 rfl
theorem dX7_ask_158 : decode cX7_ask 158 = .ok (.iload_n 1, 1) := of_row (r := (158, .iload_n 1, 1)) DX7_ask_b1 27 rfl
theorem dX7_ask_159 : decode cX7_ask 159 = .ok (.iastore, 1) := of_row (r := (159, .iastore, 1)) DX7_ask_b1 28 rfl
theorem dX7_ask_160 : decode cX7_ask 160 = .ok (.aload_n 0, 1) := of_row (r := (160, .aload_n 0, 1)) DX7_ask_b1 29 rfl
theorem dX7_ask_161 : decode cX7_ask 161 = .ok (.getfield 91, 3) := of_row (r := (161, .getfield 91, 3)) DX7_ask_b1 30 rfl
theorem dX7_ask_164 : decode cX7_ask 164 = .ok (.iload 14, 2) := of_row (r := (164, .iload 14, 2)) DX7_ask_b1 31 rfl
theorem dX7_ask_166 : decode cX7_ask 166 = .ok (.iload_n 2, 1) := of_row (r := (166, .iload_n 2, 1)) DX7_ask_b1 32 rfl
theorem dX7_ask_167 : decode cX7_ask 167 = .ok (.iastore, 1) := of_row (r := (167, .iastore, 1)) DX7_ask_b1 33 rfl
theorem dX7_ask_168 : decode cX7_ask 168 = .ok (.aload_n 0, 1) := of_row (r := (168, .aload_n 0, 1)) DX7_ask_b1 34 rfl
theorem dX7_ask_169 : decode cX7_ask 169 = .ok (.getfield 94, 3) := of_row (r := (169, .getfield 94, 3)) DX7_ask_b1 35 rfl
theorem dX7_ask_172 : decode cX7_ask 172 = .ok (.iload 14, 2) := of_row (r := (172, .iload 14, 2)) DX7_ask_b1 36 rfl
theorem dX7_ask_174 : decode cX7_ask 174 = .ok (.iload 10, 2) := of_row (r := (174, .iload 10, 2)) DX7_ask_b1 37 rfl
theorem dX7_ask_176 : decode cX7_ask 176 = .ok (.iastore, 1) := of_row (r := (176, .iastore, 1)) DX7_ask_b1 38 rfl
theorem dX7_ask_177 : decode cX7_ask 177 = .ok (.aload_n 0, 1) := of_row (r := (177, .aload_n 0, 1)) DX7_ask_b1 39 rfl
theorem dX7_ask_178 : decode cX7_ask 178 = .ok (.getfield 97, 3) := of_row (r := (178, .getfield 97, 3)) DX7_ask_b1 40 rfl
theorem dX7_ask_181 : decode cX7_ask 181 = .ok (.iload 14, 2) := of_row (r := (181, .iload 14, 2)) DX7_ask_b1 41 rfl
theorem dX7_ask_183 : decode cX7_ask 183 = .ok (.iload 13, 2) := of_row (r := (183, .iload 13, 2)) DX7_ask_b1 42 rfl
theorem dX7_ask_185 : decode cX7_ask 185 = .ok (.iastore, 1) := of_row (r := (185, .iastore, 1)) DX7_ask_b1 43 rfl
theorem dX7_ask_186 : decode cX7_ask 186 = .ok (.aload_n 0, 1) := of_row (r := (186, .aload_n 0, 1)) DX7_ask_b1 44 rfl
theorem dX7_ask_187 : decode cX7_ask 187 = .ok (.getfield 100, 3) := of_row (r := (187, .getfield 100, 3)) DX7_ask_b1 45 rfl
theorem dX7_ask_190 : decode cX7_ask 190 = .ok (.iload 14, 2) := of_row (r := (190, .iload 14, 2)) DX7_ask_b1 46 rfl
theorem dX7_ask_192 : decode cX7_ask 192 = .ok (.iload 8, 2) := of_row (r := (192, .iload 8, 2)) DX7_ask_b1 47 rfl
theorem dX7_ask_194 : decode cX7_ask 194 = .ok (.ifCond .ge 7, 3) := of_row (r := (194, .ifCond .ge 7, 3)) DX7_ask_b1 48 rfl
theorem dX7_ask_197 : decode cX7_ask 197 = .ok (.iconst (-1), 1) := of_row (r := (197, .iconst (-1), 1)) DX7_ask_b1 49 rfl
theorem dX7_ask_198 : decode cX7_ask 198 = .ok (.goto 5, 3) := of_row (r := (198, .goto 5, 3)) DX7_ask_b1 50 rfl
theorem dX7_ask_201 : decode cX7_ask 201 = .ok (.iload 8, 2) := of_row (r := (201, .iload 8, 2)) DX7_ask_b1 51 rfl
theorem dX7_ask_203 : decode cX7_ask 203 = .ok (.iastore, 1) := of_row (r := (203, .iastore, 1)) DX7_ask_b1 52 rfl
theorem dX7_ask_204 : decode cX7_ask 204 = .ok (.aload_n 0, 1) := of_row (r := (204, .aload_n 0, 1)) DX7_ask_b1 53 rfl
theorem dX7_ask_205 : decode cX7_ask 205 = .ok (.getfield 103, 3) := of_row (r := (205, .getfield 103, 3)) DX7_ask_b1 54 rfl
theorem dX7_ask_208 : decode cX7_ask 208 = .ok (.iload 14, 2) := of_row (r := (208, .iload 14, 2)) DX7_ask_b1 55 rfl
theorem dX7_ask_210 : decode cX7_ask 210 = .ok (.iload_n 3, 1) := of_row (r := (210, .iload_n 3, 1)) DX7_ask_b1 56 rfl
theorem dX7_ask_211 : decode cX7_ask 211 = .ok (.iastore, 1) := of_row (r := (211, .iastore, 1)) DX7_ask_b1 57 rfl
theorem dX7_ask_212 : decode cX7_ask 212 = .ok (.aload_n 0, 1) := of_row (r := (212, .aload_n 0, 1)) DX7_ask_b1 58 rfl
theorem dX7_ask_213 : decode cX7_ask 213 = .ok (.getfield 106, 3) := of_row (r := (213, .getfield 106, 3)) DX7_ask_b1 59 rfl
set_option maxRecDepth 20000 in
theorem DX7_ask_b2 : ([(216, .iload 14, 2), (218, .iload 13, 2), (220, .ifCond .le 10, 3), (223, .aload_n 0, 1), (224, .getfield 322, 3), (227, .goto 4, 3), (230, .iconst (-1), 1), (231, .iastore, 1), (232, .aload_n 0, 1), (233, .getfield 109, 3), (236, .iload 14, 2), (238, .iload 10, 2), (240, .iconst 3, 1), (241, .if_icmp .ne 12, 3), (244, .aload_n 0, 1), (245, .getfield 59, 3), (248, .iload_n 2, 1), (249, .iaload, 1), (250, .goto 5, 3), (253, .iload 13, 2), (255, .iastore, 1), (256, .aload_n 0, 1), (257, .dup, 1), (258, .getfield 319, 3), (261, .iconst 1, 1), (262, .iadd, 1), (263, .putfield 319, 3), (266, .iload 13, 2), (268, .ifCond .le 47, 3), (271, .aload_n 0, 1), (272, .getfield 112, 3), (275, .aload_n 0, 1), (276, .getfield 322, 3), (279, .iload 13, 2), (281, .iastore, 1), (282, .aload_n 0, 1), (283, .dup, 1), (284, .getfield 322, 3), (287, .iconst 1, 1), (288, .iadd, 1), (289, .putfield 322, 3), (292, .aload_n 0, 1), (293, .dup, 1), (294, .getfield 335, 3), (297, .iload 13, 2), (299, .i2l, 1), (300, .ladd, 1), (301, .putfield 335, 3), (304, .aload_n 0, 1), (305, .getfield 59, 3), (308, .iload_n 2, 1), (309, .dup2, 1), (310, .iaload, 1), (311, .iload 13, 2), (313, .isub, 1), (314, .iastore, 1), (315, .iload 10, 2), (317, .iconst 3, 1), (318, .if_icmp .ne 25, 3), (321, .aload_n 0, 1)] : List (Nat × Instr × Nat)).all (fun r => decide (decode cX7_ask r.1 = .ok r.2)) = true := by decide +kernel
theorem dX7_ask_216 : decode cX7_ask 216 = .ok (.iload 14, 2) := of_row (r := (216, .iload 14, 2)) DX7_ask_b2 0 rfl
theorem dX7_ask_218 : decode cX7_ask 218 = .ok (.iload 13, 2) := of_row (r := (218, .iload 13, 2)) DX7_ask_b2 1 rfl
theorem dX7_ask_220 : decode cX7_ask 220 = .ok (.ifCond .le 10, 3) := of_row (r := (220, .ifCond .le 10, 3)) DX7_ask_b2 2 rfl
theorem dX7_ask_223 : decode cX7_ask 223 = .ok (.aload_n 0, 1) := of_row (r := (223, .aload_n 0, 1)) DX7_ask_b2 3 rfl
theorem dX7_ask_224 : decode cX7_ask 224 = .ok (.getfield 322, 3) := of_row (r := (224, .getfield 322, 3)) DX7_ask_b2 4 rfl
theorem dX7_ask_227 : decode cX7_ask 227 = .ok (.goto 4, 3) := of_row (r := (227, .goto 4, 3)) DX7_ask_b2 5 rfl
theorem dX7_ask_230 : decode cX7_ask 230 = .ok (.iconst (-1), 1) := of_row (r := (230, .iconst (-1), 1)) DX7_ask_b2 6 rfl
theorem dX7_ask_231 : decode cX7_ask 231 = .ok (.iastore, 1) := of_row (r := (231, .iastore, 1)) DX7_ask_b2 7 rfl
theorem dX7_ask_232 : decode cX7_ask 232 = .ok (.aload_n 0, 1) := of_row (r := (232, .aload_n 0, 1)) DX7_ask_b2 8 rfl
theorem dX7_ask_233 : decode cX7_ask 233 = .ok (.getfield 109, 3) := of_row (r := (233, .getfield 109, 3)) DX7_ask_b2 9 rfl
theorem dX7_ask_236 : decode cX7_ask 236 = .ok (.iload 14, 2) := of_row (r := (236, .iload 14, 2)) DX7_ask_b2 10 rfl
theorem dX7_ask_238 : decode cX7_ask 238 = .ok (.iload 10, 2) := of_row (r := (238, .iload 10, 2)) DX7_ask_b2 11 rfl
theorem dX7_ask_240 : decode cX7_ask 240 = .ok (.iconst 3, 1) := of_row (r := (240, .iconst 3, 1)) DX7_ask_b2 12 rfl
theorem dX7_ask_241 : decode cX7_ask 241 = .ok (.if_icmp .ne 12, 3) := of_row (r := (241, .if_icmp .ne 12, 3)) DX7_ask_b2 13 rfl
theorem dX7_ask_244 : decode cX7_ask 244 = .ok (.aload_n 0, 1) := of_row (r := (244, .aload_n 0, 1)) DX7_ask_b2 14 rfl
theorem dX7_ask_245 : decode cX7_ask 245 = .ok (.getfield 59, 3) := of_row (r := (245, .getfield 59, 3)) DX7_ask_b2 15 rfl
theorem dX7_ask_248 : decode cX7_ask 248 = .ok (.iload_n 2, 1) := of_row (r := (248, .iload_n 2, 1)) DX7_ask_b2 16 rfl
theorem dX7_ask_249 : decode cX7_ask 249 = .ok (.iaload, 1) := of_row (r := (249, .iaload, 1)) DX7_ask_b2 17 rfl
theorem dX7_ask_250 : decode cX7_ask 250 = .ok (.goto 5, 3) := of_row (r := (250, .goto 5, 3)) DX7_ask_b2 18 rfl
theorem dX7_ask_253 : decode cX7_ask 253 = .ok (.iload 13, 2) := of_row (r := (253, .iload 13, 2)) DX7_ask_b2 19 rfl
theorem dX7_ask_255 : decode cX7_ask 255 = .ok (.iastore, 1) := of_row (r := (255, .iastore, 1)) DX7_ask_b2 20 rfl
theorem dX7_ask_256 : decode cX7_ask 256 = .ok (.aload_n 0, 1) := of_row (r := (256, .aload_n 0, 1)) DX7_ask_b2 21 rfl
theorem dX7_ask_257 : decode cX7_ask 257 = .ok (.dup, 1) := of_row (r := (257, .dup, 1)) DX7_ask_b2 22 rfl
theorem dX7_ask_258 : decode cX7_ask 258 = .ok (.getfield 319, 3) := of_row (r := (258, .getfield 319, 3)) DX7_ask_b2 23 rfl
theorem dX7_ask_261 : decode cX7_ask 261 = .ok (.iconst 1, 1) := of_row (r := (261, .iconst 1, 1)) DX7_ask_b2 24 rfl
theorem dX7_ask_262 : decode cX7_ask 262 = .ok (.iadd, 1) := of_row (r := (262, .iadd, 1)) DX7_ask_b2 25 rfl
theorem dX7_ask_263 : decode cX7_ask 263 = .ok (.putfield 319, 3) := of_row (r := (263, .putfield 319, 3)) DX7_ask_b2 26 rfl
theorem dX7_ask_266 : decode cX7_ask 266 = .ok (.iload 13, 2) := of_row (r := (266, .iload 13, 2)) DX7_ask_b2 27 rfl
theorem dX7_ask_268 : decode cX7_ask 268 = .ok (.ifCond .le 47, 3) := of_row (r := (268, .ifCond .le 47, 3)) DX7_ask_b2 28 rfl
theorem dX7_ask_271 : decode cX7_ask 271 = .ok (.aload_n 0, 1) := of_row (r := (271, .aload_n 0, 1)) DX7_ask_b2 29 rfl
theorem dX7_ask_272 : decode cX7_ask 272 = .ok (.getfield 112, 3) := of_row (r := (272, .getfield 112, 3)) DX7_ask_b2 30 rfl
theorem dX7_ask_275 : decode cX7_ask 275 = .ok (.aload_n 0, 1) := of_row (r := (275, .aload_n 0, 1)) DX7_ask_b2 31 rfl
theorem dX7_ask_276 : decode cX7_ask 276 = .ok (.getfield 322, 3) := of_row (r := (276, .getfield 322, 3)) DX7_ask_b2 32 rfl
theorem dX7_ask_279 : decode cX7_ask 279 = .ok (.iload 13, 2) := of_row (r := (279, .iload 13, 2)) DX7_ask_b2 33 rfl
theorem dX7_ask_281 : decode cX7_ask 281 = .ok (.iastore, 1) := of_row (r := (281, .iastore, 1)) DX7_ask_b2 34 rfl
theorem dX7_ask_282 : decode cX7_ask 282 = .ok (.aload_n 0, 1) := of_row (r := (282, .aload_n 0, 1)) DX7_ask_b2 35 rfl
theorem dX7_ask_283 : decode cX7_ask 283 = .ok (.dup, 1) := of_row (r := (283, .dup, 1)) DX7_ask_b2 36 rfl
theorem dX7_ask_284 : decode cX7_ask 284 = .ok (.getfield 322, 3) := of_row (r := (284, .getfield 322, 3)) DX7_ask_b2 37 rfl
theorem dX7_ask_287 : decode cX7_ask 287 = .ok (.iconst 1, 1) := of_row (r := (287, .iconst 1, 1)) DX7_ask_b2 38 rfl
theorem dX7_ask_288 : decode cX7_ask 288 = .ok (.iadd, 1) := of_row (r := (288, .iadd, 1)) DX7_ask_b2 39 rfl
theorem dX7_ask_289 : decode cX7_ask 289 = .ok (.putfield 322, 3) := of_row (r := (289, .putfield 322, 3)) DX7_ask_b2 40 rfl
theorem dX7_ask_292 : decode cX7_ask 292 = .ok (.aload_n 0, 1) := of_row (r := (292, .aload_n 0, 1)) DX7_ask_b2 41 rfl
theorem dX7_ask_293 : decode cX7_ask 293 = .ok (.dup, 1) := of_row (r := (293, .dup, 1)) DX7_ask_b2 42 rfl
theorem dX7_ask_294 : decode cX7_ask 294 = .ok (.getfield 335, 3) := of_row (r := (294, .getfield 335, 3)) DX7_ask_b2 43 rfl
theorem dX7_ask_297 : decode cX7_ask 297 = .ok (.iload 13, 2) := of_row (r := (297, .iload 13, 2)) DX7_ask_b2 44 rfl
theorem dX7_ask_299 : decode cX7_ask 299 = .ok (.i2l, 1) := of_row (r := (299, .i2l, 1)) DX7_ask_b2 45 rfl
theorem dX7_ask_300 : decode cX7_ask 300 = .ok (.ladd, 1) := of_row (r := (300, .ladd, 1)) DX7_ask_b2 46 rfl
theorem dX7_ask_301 : decode cX7_ask 301 = .ok (.putfield 335, 3) := of_row (r := (301, .putfield 335, 3)) DX7_ask_b2 47 rfl
theorem dX7_ask_304 : decode cX7_ask 304 = .ok (.aload_n 0, 1) := of_row (r := (304, .aload_n 0, 1)) DX7_ask_b2 48 rfl
theorem dX7_ask_305 : decode cX7_ask 305 = .ok (.getfield 59, 3) := of_row (r := (305, .getfield 59, 3)) DX7_ask_b2 49 rfl
theorem dX7_ask_308 : decode cX7_ask 308 = .ok (.iload_n 2, 1) := of_row (r := (308, .iload_n 2, 1)) DX7_ask_b2 50 rfl
theorem dX7_ask_309 : decode cX7_ask 309 = .ok (.dup2, 1) := of_row (r := (309, .dup2, 1)) DX7_ask_b2 51 rfl
theorem dX7_ask_310 : decode cX7_ask 310 = .ok (.iaload, 1) := of_row (r := (310, .iaload, 1)) DX7_ask_b2 52 rfl
theorem dX7_ask_311 : decode cX7_ask 311 = .ok (.iload 13, 2) := of_row (r := (311, .iload 13, 2)) DX7_ask_b2 53 rfl
theorem dX7_ask_313 : decode cX7_ask 313 = .ok (.isub, 1) := of_row (r := (313, .isub, 1)) DX7_ask_b2 54 rfl
theorem dX7_ask_314 : decode cX7_ask 314 = .ok (.iastore, 1) := of_row (r := (314, .iastore, 1)) DX7_ask_b2 55 rfl
theorem dX7_ask_315 : decode cX7_ask 315 = .ok (.iload 10, 2) := of_row (r := (315, .iload 10, 2)) DX7_ask_b2 56 rfl
theorem dX7_ask_317 : decode cX7_ask 317 = .ok (.iconst 3, 1) := of_row (r := (317, .iconst 3, 1)) DX7_ask_b2 57 rfl
theorem dX7_ask_318 : decode cX7_ask 318 = .ok (.if_icmp .ne 25, 3) := of_row (r := (318, .if_icmp .ne 25, 3)) DX7_ask_b2 58 rfl
theorem dX7_ask_321 : decode cX7_ask 321 = .ok (.aload_n 0, 1) := of_row (r := (321, .aload_n 0, 1)) DX7_ask_b2 59 rfl
set_option maxRecDepth 20000 in
theorem DX7_ask_b3 : ([(322, .getfield 68, 3), (325, .iload_n 2, 1), (326, .dup2, 1), (327, .iaload, 1), (328, .aload_n 0, 1), (329, .getfield 59, 3), (332, .iload_n 2, 1), (333, .iaload, 1), (334, .iadd, 1), (335, .iastore, 1), (336, .aload_n 0, 1), (337, .getfield 59, 3), (340, .iload_n 2, 1), (341, .iconst 0, 1), (342, .iastore, 1), (343, .iload 10, 2), (345, .iconst 4, 1), (346, .if_icmp .ne 41, 3), (349, .aload_n 0, 1), (350, .getfield 65, 3), (353, .iload_n 2, 1), (354, .iaload, 1), (355, .ifCond .lt 32, 3), (358, .aload_n 0, 1), (359, .getfield 65, 3), (362, .iload_n 2, 1), (363, .iaload, 1), (364, .iload_n 1, 1), (365, .if_icmp .eq 22, 3), (368, .aload_n 0, 1), (369, .getfield 50, 3), (372, .iload_n 2, 1), (373, .aload_n 0, 1), (374, .getfield 65, 3), (377, .iload_n 2, 1), (378, .iaload, 1), (379, .iastore, 1), (380, .aload_n 0, 1), (381, .getfield 65, 3), (384, .iload_n 2, 1), (385, .iconst (-1), 1), (386, .iastore, 1), (387, .iload 10, 2), (389, .iconst 5, 1), (390, .if_icmp .ne 10, 3), (393, .aload_n 0, 1), (394, .getfield 75, 3), (397, .iload_n 1, 1), (398, .iconst 1, 1), (399, .bastore, 1), (400, .iload 13, 2), (402, .ireturn, 1)] : List (Nat × Instr × Nat)).all (fun r => decide (decode cX7_ask r.1 = .ok r.2)) = true := by decide +kernel
theorem dX7_ask_322 : decode cX7_ask 322 = .ok (.getfield 68, 3) := of_row (r := (322, .getfield 68, 3)) DX7_ask_b3 0 rfl
theorem dX7_ask_325 : decode cX7_ask 325 = .ok (.iload_n 2, 1) := of_row (r := (325, .iload_n 2, 1)) DX7_ask_b3 1 rfl
theorem dX7_ask_326 : decode cX7_ask 326 = .ok (.dup2, 1) := of_row (r := (326, .dup2, 1)) DX7_ask_b3 2 rfl
theorem dX7_ask_327 : decode cX7_ask 327 = .ok (.iaload, 1) := of_row (r := (327, .iaload, 1)) DX7_ask_b3 3 rfl
theorem dX7_ask_328 : decode cX7_ask 328 = .ok (.aload_n 0, 1) := of_row (r := (328, .aload_n 0, 1)) DX7_ask_b3 4 rfl
theorem dX7_ask_329 : decode cX7_ask 329 = .ok (.getfield 59, 3) := of_row (r := (329, .getfield 59, 3)) DX7_ask_b3 5 rfl
theorem dX7_ask_332 : decode cX7_ask 332 = .ok (.iload_n 2, 1) := of_row (r := (332, .iload_n 2, 1)) DX7_ask_b3 6 rfl
theorem dX7_ask_333 : decode cX7_ask 333 = .ok (.iaload, 1) := of_row (r := (333, .iaload, 1)) DX7_ask_b3 7 rfl
theorem dX7_ask_334 : decode cX7_ask 334 = .ok (.iadd, 1) := of_row (r := (334, .iadd, 1)) DX7_ask_b3 8 rfl
theorem dX7_ask_335 : decode cX7_ask 335 = .ok (.iastore, 1) := of_row (r := (335, .iastore, 1)) DX7_ask_b3 9 rfl
theorem dX7_ask_336 : decode cX7_ask 336 = .ok (.aload_n 0, 1) := of_row (r := (336, .aload_n 0, 1)) DX7_ask_b3 10 rfl
theorem dX7_ask_337 : decode cX7_ask 337 = .ok (.getfield 59, 3) := of_row (r := (337, .getfield 59, 3)) DX7_ask_b3 11 rfl
theorem dX7_ask_340 : decode cX7_ask 340 = .ok (.iload_n 2, 1) := of_row (r := (340, .iload_n 2, 1)) DX7_ask_b3 12 rfl
theorem dX7_ask_341 : decode cX7_ask 341 = .ok (.iconst 0, 1) := of_row (r := (341, .iconst 0, 1)) DX7_ask_b3 13 rfl
theorem dX7_ask_342 : decode cX7_ask 342 = .ok (.iastore, 1) := of_row (r := (342, .iastore, 1)) DX7_ask_b3 14 rfl
theorem dX7_ask_343 : decode cX7_ask 343 = .ok (.iload 10, 2) := of_row (r := (343, .iload 10, 2)) DX7_ask_b3 15 rfl
theorem dX7_ask_345 : decode cX7_ask 345 = .ok (.iconst 4, 1) := of_row (r := (345, .iconst 4, 1)) DX7_ask_b3 16 rfl
theorem dX7_ask_346 : decode cX7_ask 346 = .ok (.if_icmp .ne 41, 3) := of_row (r := (346, .if_icmp .ne 41, 3)) DX7_ask_b3 17 rfl
theorem dX7_ask_349 : decode cX7_ask 349 = .ok (.aload_n 0, 1) := of_row (r := (349, .aload_n 0, 1)) DX7_ask_b3 18 rfl
theorem dX7_ask_350 : decode cX7_ask 350 = .ok (.getfield 65, 3) := of_row (r := (350, .getfield 65, 3)) DX7_ask_b3 19 rfl
theorem dX7_ask_353 : decode cX7_ask 353 = .ok (.iload_n 2, 1) := of_row (r := (353, .iload_n 2, 1)) DX7_ask_b3 20 rfl
theorem dX7_ask_354 : decode cX7_ask 354 = .ok (.iaload, 1) := of_row (r := (354, .iaload, 1)) DX7_ask_b3 21 rfl
theorem dX7_ask_355 : decode cX7_ask 355 = .ok (.ifCond .lt 32, 3) := of_row (r := (355, .ifCond .lt 32, 3)) DX7_ask_b3 22 rfl
theorem dX7_ask_358 : decode cX7_ask 358 = .ok (.aload_n 0, 1) := of_row (r := (358, .aload_n 0, 1)) DX7_ask_b3 23 rfl
theorem dX7_ask_359 : decode cX7_ask 359 = .ok (.getfield 65, 3) := of_row (r := (359, .getfield 65, 3)) DX7_ask_b3 24 rfl
theorem dX7_ask_362 : decode cX7_ask 362 = .ok (.iload_n 2, 1) := of_row (r := (362, .iload_n 2, 1)) DX7_ask_b3 25 rfl
theorem dX7_ask_363 : decode cX7_ask 363 = .ok (.iaload, 1) := of_row (r := (363, .iaload, 1)) DX7_ask_b3 26 rfl
theorem dX7_ask_364 : decode cX7_ask 364 = .ok (.iload_n 1, 1) := of_row (r := (364, .iload_n 1, 1)) DX7_ask_b3 27 rfl
theorem dX7_ask_365 : decode cX7_ask 365 = .ok (.if_icmp .eq 22, 3) := of_row (r := (365, .if_icmp .eq 22, 3)) DX7_ask_b3 28 rfl
theorem dX7_ask_368 : decode cX7_ask 368 = .ok (.aload_n 0, 1) := of_row (r := (368, .aload_n 0, 1)) DX7_ask_b3 29 rfl
theorem dX7_ask_369 : decode cX7_ask 369 = .ok (.getfield 50, 3) := of_row (r := (369, .getfield 50, 3)) DX7_ask_b3 30 rfl
theorem dX7_ask_372 : decode cX7_ask 372 = .ok (.iload_n 2, 1) := of_row (r := (372, .iload_n 2, 1)) DX7_ask_b3 31 rfl
theorem dX7_ask_373 : decode cX7_ask 373 = .ok (.aload_n 0, 1) := of_row (r := (373, .aload_n 0, 1)) DX7_ask_b3 32 rfl
theorem dX7_ask_374 : decode cX7_ask 374 = .ok (.getfield 65, 3) := of_row (r := (374, .getfield 65, 3)) DX7_ask_b3 33 rfl
theorem dX7_ask_377 : decode cX7_ask 377 = .ok (.iload_n 2, 1) := of_row (r := (377, .iload_n 2, 1)) DX7_ask_b3 34 rfl
theorem dX7_ask_378 : decode cX7_ask 378 = .ok (.iaload, 1) := of_row (r := (378, .iaload, 1)) DX7_ask_b3 35 rfl
theorem dX7_ask_379 : decode cX7_ask 379 = .ok (.iastore, 1) := of_row (r := (379, .iastore, 1)) DX7_ask_b3 36 rfl
theorem dX7_ask_380 : decode cX7_ask 380 = .ok (.aload_n 0, 1) := of_row (r := (380, .aload_n 0, 1)) DX7_ask_b3 37 rfl
theorem dX7_ask_381 : decode cX7_ask 381 = .ok (.getfield 65, 3) := of_row (r := (381, .getfield 65, 3)) DX7_ask_b3 38 rfl
theorem dX7_ask_384 : decode cX7_ask 384 = .ok (.iload_n 2, 1) := of_row (r := (384, .iload_n 2, 1)) DX7_ask_b3 39 rfl
theorem dX7_ask_385 : decode cX7_ask 385 = .ok (.iconst (-1), 1) := of_row (r := (385, .iconst (-1), 1)) DX7_ask_b3 40 rfl
theorem dX7_ask_386 : decode cX7_ask 386 = .ok (.iastore, 1) := of_row (r := (386, .iastore, 1)) DX7_ask_b3 41 rfl
theorem dX7_ask_387 : decode cX7_ask 387 = .ok (.iload 10, 2) := of_row (r := (387, .iload 10, 2)) DX7_ask_b3 42 rfl
theorem dX7_ask_389 : decode cX7_ask 389 = .ok (.iconst 5, 1) := of_row (r := (389, .iconst 5, 1)) DX7_ask_b3 43 rfl
theorem dX7_ask_390 : decode cX7_ask 390 = .ok (.if_icmp .ne 10, 3) := of_row (r := (390, .if_icmp .ne 10, 3)) DX7_ask_b3 44 rfl
theorem dX7_ask_393 : decode cX7_ask 393 = .ok (.aload_n 0, 1) := of_row (r := (393, .aload_n 0, 1)) DX7_ask_b3 45 rfl
theorem dX7_ask_394 : decode cX7_ask 394 = .ok (.getfield 75, 3) := of_row (r := (394, .getfield 75, 3)) DX7_ask_b3 46 rfl
theorem dX7_ask_397 : decode cX7_ask 397 = .ok (.iload_n 1, 1) := of_row (r := (397, .iload_n 1, 1)) DX7_ask_b3 47 rfl
theorem dX7_ask_398 : decode cX7_ask 398 = .ok (.iconst 1, 1) := of_row (r := (398, .iconst 1, 1)) DX7_ask_b3 48 rfl
theorem dX7_ask_399 : decode cX7_ask 399 = .ok (.bastore, 1) := of_row (r := (399, .bastore, 1)) DX7_ask_b3 49 rfl
theorem dX7_ask_400 : decode cX7_ask 400 = .ok (.iload 13, 2) := of_row (r := (400, .iload 13, 2)) DX7_ask_b3 50 rfl
theorem dX7_ask_402 : decode cX7_ask 402 = .ok (.ireturn, 1) := of_row (r := (402, .ireturn, 1)) DX7_ask_b3 51 rfl
set_option maxRecDepth 20000 in
theorem DX7_free_b0 : ([(0, .iload_n 1, 1), (1, .invokestatic 281, 3), (4, .ifCond .ne 5, 3), (7, .iconst (-1), 1), (8, .ireturn, 1), (9, .aload_n 0, 1), (10, .getfield 75, 3), (13, .iload_n 1, 1), (14, .baload, 1), (15, .ifCond .eq 7, 3), (18, .iconst 1, 1), (19, .goto 4, 3), (22, .iconst 0, 1), (23, .istore_n 2, 1), (24, .aload_n 0, 1), (25, .getfield 75, 3), (28, .iload_n 1, 1), (29, .iconst 0, 1), (30, .bastore, 1), (31, .iload_n 2, 1), (32, .ireturn, 1)] : List (Nat × Instr × Nat)).all (fun r => decide (decode cX7_free r.1 = .ok r.2)) = true := by decide +kernel
theorem dX7_free_0 : decode cX7_free 0 = .ok (.iload_n 1, 1) := of_row (r := (0, .iload_n 1, 1)) DX7_free_b0 0 rfl
theorem dX7_free_1 : decode cX7_free 1 = .ok (.invokestatic 281, 3) := of_row (r := (1, .invokestatic 281, 3)) DX7_free_b0 1 rfl
theorem dX7_free_4 : decode cX7_free 4 = .ok (.ifCond .ne 5, 3) := of_row (r := (4, .ifCond .ne 5, 3)) DX7_free_b0 2 rfl
theorem dX7_free_7 : decode cX7_free 7 = .ok (.iconst (-1), 1) := of_row (r := (7, .iconst (-1), 1)) DX7_free_b0 3 rfl
theorem dX7_free_8 : decode cX7_free 8 = .ok (.ireturn, 1) := of_row (r := (8, .ireturn, 1)) DX7_free_b0 4 rfl
theorem dX7_free_9 : decode cX7_free 9 = .ok (.aload_n 0, 1) := of_row (r := (9, .aload_n 0, 1)) DX7_free_b0 5 rfl
theorem dX7_free_10 : decode cX7_free 10 = .ok (.getfield 75, 3) := of_row (r := (10, .getfield 75, 3)) DX7_free_b0 6 rfl
theorem dX7_free_13 : decode cX7_free 13 = .ok (.iload_n 1, 1) := of_row (r := (13, .iload_n 1, 1)) DX7_free_b0 7 rfl
theorem dX7_free_14 : decode cX7_free 14 = .ok (.baload, 1) := of_row (r := (14, .baload, 1)) DX7_free_b0 8 rfl
theorem dX7_free_15 : decode cX7_free 15 = .ok (.ifCond .eq 7, 3) := of_row (r := (15, .ifCond .eq 7, 3)) DX7_free_b0 9 rfl
theorem dX7_free_18 : decode cX7_free 18 = .ok (.iconst 1, 1) := of_row (r := (18, .iconst 1, 1)) DX7_free_b0 10 rfl
theorem dX7_free_19 : decode cX7_free 19 = .ok (.goto 4, 3) := of_row (r := (19, .goto 4, 3)) DX7_free_b0 11 rfl
theorem dX7_free_22 : decode cX7_free 22 = .ok (.iconst 0, 1) := of_row (r := (22, .iconst 0, 1)) DX7_free_b0 12 rfl
theorem dX7_free_23 : decode cX7_free 23 = .ok (.istore_n 2, 1) := of_row (r := (23, .istore_n 2, 1)) DX7_free_b0 13 rfl
theorem dX7_free_24 : decode cX7_free 24 = .ok (.aload_n 0, 1) := of_row (r := (24, .aload_n 0, 1)) DX7_free_b0 14 rfl
theorem dX7_free_25 : decode cX7_free 25 = .ok (.getfield 75, 3) := of_row (r := (25, .getfield 75, 3)) DX7_free_b0 15 rfl
theorem dX7_free_28 : decode cX7_free 28 = .ok (.iload_n 1, 1) := of_row (r := (28, .iload_n 1, 1)) DX7_free_b0 16 rfl
theorem dX7_free_29 : decode cX7_free 29 = .ok (.iconst 0, 1) := of_row (r := (29, .iconst 0, 1)) DX7_free_b0 17 rfl
theorem dX7_free_30 : decode cX7_free 30 = .ok (.bastore, 1) := of_row (r := (30, .bastore, 1)) DX7_free_b0 18 rfl
theorem dX7_free_31 : decode cX7_free 31 = .ok (.iload_n 2, 1) := of_row (r := (31, .iload_n 2, 1)) DX7_free_b0 19 rfl
theorem dX7_free_32 : decode cX7_free 32 = .ok (.ireturn, 1) := of_row (r := (32, .ireturn, 1)) DX7_free_b0 20 rfl
set_option maxRecDepth 20000 in
theorem DX7_heir_b0 : ([(0, .iload_n 1, 1), (1, .invokestatic 281, 3), (4, .ifCond .eq 15, 3), (7, .iload_n 2, 1), (8, .invokestatic 281, 3), (11, .ifCond .eq 8, 3), (14, .iload_n 1, 1), (15, .iload_n 2, 1), (16, .if_icmp .ne 5, 3), (19, .iconst (-1), 1), (20, .ireturn, 1), (21, .iconst 0, 1), (22, .istore_n 3, 1), (23, .iconst 0, 1), (24, .istore 4, 2), (26, .iload 4, 2), (28, .aload_n 0, 1), (29, .getfield 277, 3), (32, .if_icmp .ge 63, 3), (35, .aload_n 0, 1), (36, .getfield 50, 3), (39, .iload 4, 2), (41, .iaload, 1), (42, .iload_n 1, 1), (43, .if_icmp .ne 46, 3), (46, .aload_n 0, 1), (47, .getfield 59, 3), (50, .iload 4, 2), (52, .iaload, 1), (53, .ifCond .ne 6, 3), (56, .goto 33, 3), (59, .aload_n 0, 1), (60, .getfield 50, 3), (63, .iload 4, 2), (65, .iload_n 2, 1), (66, .iastore, 1), (67, .aload_n 0, 1), (68, .getfield 65, 3), (71, .iload 4, 2), (73, .iaload, 1), (74, .iload_n 2, 1), (75, .if_icmp .ne 11, 3), (78, .aload_n 0, 1), (79, .getfield 65, 3), (82, .iload 4, 2), (84, .iconst (-1), 1), (85, .iastore, 1), (86, .iinc 3 1, 3), (89, .iinc 4 1, 3), (92, .goto (-66), 3), (95, .aload_n 0, 1), (96, .getfield 71, 3), (99, .iload_n 2, 1), (100, .dup2, 1), (101, .laload, 1), (102, .aload_n 0, 1), (103, .getfield 71, 3), (106, .iload_n 1, 1), (107, .laload, 1), (108, .ladd, 1)] : List (Nat × Instr × Nat)).all (fun r => decide (decode cX7_heir r.1 = .ok r.2)) = true := by decide +kernel
theorem dX7_heir_0 : decode cX7_heir 0 = .ok (.iload_n 1, 1) := of_row (r := (0, .iload_n 1, 1)) DX7_heir_b0 0 rfl
theorem dX7_heir_1 : decode cX7_heir 1 = .ok (.invokestatic 281, 3) := of_row (r := (1, .invokestatic 281, 3)) DX7_heir_b0 1 rfl
theorem dX7_heir_4 : decode cX7_heir 4 = .ok (.ifCond .eq 15, 3) := of_row (r := (4, .ifCond .eq 15, 3)) DX7_heir_b0 2 rfl
theorem dX7_heir_7 : decode cX7_heir 7 = .ok (.iload_n 2, 1) := of_row (r := (7, .iload_n 2, 1)) DX7_heir_b0 3 rfl
theorem dX7_heir_8 : decode cX7_heir 8 = .ok (.invokestatic 281, 3) := of_row (r := (8, .invokestatic 281, 3)) DX7_heir_b0 4 rfl
theorem dX7_heir_11 : decode cX7_heir 11 = .ok (.ifCond .eq 8, 3) := of_row (r := (11, .ifCond .eq 8, 3)) DX7_heir_b0 5 rfl
theorem dX7_heir_14 : decode cX7_heir 14 = .ok (.iload_n 1, 1) := of_row (r := (14, .iload_n 1, 1)) DX7_heir_b0 6 rfl
theorem dX7_heir_15 : decode cX7_heir 15 = .ok (.iload_n 2, 1) := of_row (r := (15, .iload_n 2, 1)) DX7_heir_b0 7 rfl
theorem dX7_heir_16 : decode cX7_heir 16 = .ok (.if_icmp .ne 5, 3) := of_row (r := (16, .if_icmp .ne 5, 3)) DX7_heir_b0 8 rfl
theorem dX7_heir_19 : decode cX7_heir 19 = .ok (.iconst (-1), 1) := of_row (r := (19, .iconst (-1), 1)) DX7_heir_b0 9 rfl
theorem dX7_heir_20 : decode cX7_heir 20 = .ok (.ireturn, 1) := of_row (r := (20, .ireturn, 1)) DX7_heir_b0 10 rfl
theorem dX7_heir_21 : decode cX7_heir 21 = .ok (.iconst 0, 1) := of_row (r := (21, .iconst 0, 1)) DX7_heir_b0 11 rfl
theorem dX7_heir_22 : decode cX7_heir 22 = .ok (.istore_n 3, 1) := of_row (r := (22, .istore_n 3, 1)) DX7_heir_b0 12 rfl
theorem dX7_heir_23 : decode cX7_heir 23 = .ok (.iconst 0, 1) := of_row (r := (23, .iconst 0, 1)) DX7_heir_b0 13 rfl
theorem dX7_heir_24 : decode cX7_heir 24 = .ok (.istore 4, 2) := of_row (r := (24, .istore 4, 2)) DX7_heir_b0 14 rfl
theorem dX7_heir_26 : decode cX7_heir 26 = .ok (.iload 4, 2) := of_row (r := (26, .iload 4, 2)) DX7_heir_b0 15 rfl
theorem dX7_heir_28 : decode cX7_heir 28 = .ok (.aload_n 0, 1) := of_row (r := (28, .aload_n 0, 1)) DX7_heir_b0 16 rfl
theorem dX7_heir_29 : decode cX7_heir 29 = .ok (.getfield 277, 3) := of_row (r := (29, .getfield 277, 3)) DX7_heir_b0 17 rfl
theorem dX7_heir_32 : decode cX7_heir 32 = .ok (.if_icmp .ge 63, 3) := of_row (r := (32, .if_icmp .ge 63, 3)) DX7_heir_b0 18 rfl
theorem dX7_heir_35 : decode cX7_heir 35 = .ok (.aload_n 0, 1) := of_row (r := (35, .aload_n 0, 1)) DX7_heir_b0 19 rfl
theorem dX7_heir_36 : decode cX7_heir 36 = .ok (.getfield 50, 3) := of_row (r := (36, .getfield 50, 3)) DX7_heir_b0 20 rfl
theorem dX7_heir_39 : decode cX7_heir 39 = .ok (.iload 4, 2) := of_row (r := (39, .iload 4, 2)) DX7_heir_b0 21 rfl
theorem dX7_heir_41 : decode cX7_heir 41 = .ok (.iaload, 1) := of_row (r := (41, .iaload, 1)) DX7_heir_b0 22 rfl
theorem dX7_heir_42 : decode cX7_heir 42 = .ok (.iload_n 1, 1) := of_row (r := (42, .iload_n 1, 1)) DX7_heir_b0 23 rfl
theorem dX7_heir_43 : decode cX7_heir 43 = .ok (.if_icmp .ne 46, 3) := of_row (r := (43, .if_icmp .ne 46, 3)) DX7_heir_b0 24 rfl
theorem dX7_heir_46 : decode cX7_heir 46 = .ok (.aload_n 0, 1) := of_row (r := (46, .aload_n 0, 1)) DX7_heir_b0 25 rfl
theorem dX7_heir_47 : decode cX7_heir 47 = .ok (.getfield 59, 3) := of_row (r := (47, .getfield 59, 3)) DX7_heir_b0 26 rfl
theorem dX7_heir_50 : decode cX7_heir 50 = .ok (.iload 4, 2) := of_row (r := (50, .iload 4, 2)) DX7_heir_b0 27 rfl
theorem dX7_heir_52 : decode cX7_heir 52 = .ok (.iaload, 1) := of_row (r := (52, .iaload, 1)) DX7_heir_b0 28 rfl
theorem dX7_heir_53 : decode cX7_heir 53 = .ok (.ifCond .ne 6, 3) := of_row (r := (53, .ifCond .ne 6, 3)) DX7_heir_b0 29 rfl
theorem dX7_heir_56 : decode cX7_heir 56 = .ok (.goto 33, 3) := of_row (r := (56, .goto 33, 3)) DX7_heir_b0 30 rfl
theorem dX7_heir_59 : decode cX7_heir 59 = .ok (.aload_n 0, 1) := of_row (r := (59, .aload_n 0, 1)) DX7_heir_b0 31 rfl
theorem dX7_heir_60 : decode cX7_heir 60 = .ok (.getfield 50, 3) := of_row (r := (60, .getfield 50, 3)) DX7_heir_b0 32 rfl
theorem dX7_heir_63 : decode cX7_heir 63 = .ok (.iload 4, 2) := of_row (r := (63, .iload 4, 2)) DX7_heir_b0 33 rfl
theorem dX7_heir_65 : decode cX7_heir 65 = .ok (.iload_n 2, 1) := of_row (r := (65, .iload_n 2, 1)) DX7_heir_b0 34 rfl
theorem dX7_heir_66 : decode cX7_heir 66 = .ok (.iastore, 1) := of_row (r := (66, .iastore, 1)) DX7_heir_b0 35 rfl
theorem dX7_heir_67 : decode cX7_heir 67 = .ok (.aload_n 0, 1) := of_row (r := (67, .aload_n 0, 1)) DX7_heir_b0 36 rfl
theorem dX7_heir_68 : decode cX7_heir 68 = .ok (.getfield 65, 3) := of_row (r := (68, .getfield 65, 3)) DX7_heir_b0 37 rfl
theorem dX7_heir_71 : decode cX7_heir 71 = .ok (.iload 4, 2) := of_row (r := (71, .iload 4, 2)) DX7_heir_b0 38 rfl
theorem dX7_heir_73 : decode cX7_heir 73 = .ok (.iaload, 1) := of_row (r := (73, .iaload, 1)) DX7_heir_b0 39 rfl
theorem dX7_heir_74 : decode cX7_heir 74 = .ok (.iload_n 2, 1) := of_row (r := (74, .iload_n 2, 1)) DX7_heir_b0 40 rfl
theorem dX7_heir_75 : decode cX7_heir 75 = .ok (.if_icmp .ne 11, 3) := of_row (r := (75, .if_icmp .ne 11, 3)) DX7_heir_b0 41 rfl
theorem dX7_heir_78 : decode cX7_heir 78 = .ok (.aload_n 0, 1) := of_row (r := (78, .aload_n 0, 1)) DX7_heir_b0 42 rfl
theorem dX7_heir_79 : decode cX7_heir 79 = .ok (.getfield 65, 3) := of_row (r := (79, .getfield 65, 3)) DX7_heir_b0 43 rfl
theorem dX7_heir_82 : decode cX7_heir 82 = .ok (.iload 4, 2) := of_row (r := (82, .iload 4, 2)) DX7_heir_b0 44 rfl
theorem dX7_heir_84 : decode cX7_heir 84 = .ok (.iconst (-1), 1) := of_row (r := (84, .iconst (-1), 1)) DX7_heir_b0 45 rfl
theorem dX7_heir_85 : decode cX7_heir 85 = .ok (.iastore, 1) := of_row (r := (85, .iastore, 1)) DX7_heir_b0 46 rfl
theorem dX7_heir_86 : decode cX7_heir 86 = .ok (.iinc 3 1, 3) := of_row (r := (86, .iinc 3 1, 3)) DX7_heir_b0 47 rfl
theorem dX7_heir_89 : decode cX7_heir 89 = .ok (.iinc 4 1, 3) := of_row (r := (89, .iinc 4 1, 3)) DX7_heir_b0 48 rfl
theorem dX7_heir_92 : decode cX7_heir 92 = .ok (.goto (-66), 3) := of_row (r := (92, .goto (-66), 3)) DX7_heir_b0 49 rfl
