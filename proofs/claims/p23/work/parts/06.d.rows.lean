theorem dX7_heir_95 : decode cX7_heir 95 = .ok (.aload_n 0, 1) := of_row (r := (95, .aload_n 0, 1)) DX7_heir_b0 50 rfl
theorem dX7_heir_96 : decode cX7_heir 96 = .ok (.getfield 71, 3) := of_row (r := (96, .getfield 71, 3)) DX7_heir_b0 51 rfl
theorem dX7_heir_99 : decode cX7_heir 99 = .ok (.iload_n 2, 1) := of_row (r := (99, .iload_n 2, 1)) DX7_heir_b0 52 rfl
theorem dX7_heir_100 : decode cX7_heir 100 = .ok (.dup2, 1) := of_row (r := (100, .dup2, 1)) DX7_heir_b0 53 rfl
theorem dX7_heir_101 : decode cX7_heir 101 = .ok (.laload, 1) := of_row (r := (101, .laload, 1)) DX7_heir_b0 54 rfl
theorem dX7_heir_102 : decode cX7_heir 102 = .ok (.aload_n 0, 1) := of_row (r := (102, .aload_n 0, 1)) DX7_heir_b0 55 rfl
theorem dX7_heir_103 : decode cX7_heir 103 = .ok (.getfield 71, 3) := of_row (r := (103, .getfield 71, 3)) DX7_heir_b0 56 rfl
theorem dX7_heir_106 : decode cX7_heir 106 = .ok (.iload_n 1, 1) := of_row (r := (106, .iload_n 1, 1)) DX7_heir_b0 57 rfl
theorem dX7_heir_107 : decode cX7_heir 107 = .ok (.laload, 1) := of_row (r := (107, .laload, 1)) DX7_heir_b0 58 rfl
theorem dX7_heir_108 : decode cX7_heir 108 = .ok (.ladd, 1) := of_row (r := (108, .ladd, 1)) DX7_heir_b0 59 rfl
set_option maxRecDepth 20000 in
theorem DX7_heir_b1 : ([(109, .lastore, 1), (110, .aload_n 0, 1), (111, .getfield 71, 3), (114, .iload_n 1, 1), (115, .lconst 0, 1), (116, .lastore, 1), (117, .iload_n 3, 1), (118, .ireturn, 1)] : List (Nat × Instr × Nat)).all (fun r => decide (decode cX7_heir r.1 = .ok r.2)) = true := by decide +kernel
theorem dX7_heir_109 : decode cX7_heir 109 = .ok (.lastore, 1) := of_row (r := (109, .lastore, 1)) DX7_heir_b1 0 rfl
theorem dX7_heir_110 : decode cX7_heir 110 = .ok (.aload_n 0, 1) := of_row (r := (110, .aload_n 0, 1)) DX7_heir_b1 1 rfl
theorem dX7_heir_111 : decode cX7_heir 111 = .ok (.getfield 71, 3) := of_row (r := (111, .getfield 71, 3)) DX7_heir_b1 2 rfl
theorem dX7_heir_114 : decode cX7_heir 114 = .ok (.iload_n 1, 1) := of_row (r := (114, .iload_n 1, 1)) DX7_heir_b1 3 rfl
theorem dX7_heir_115 : decode cX7_heir 115 = .ok (.lconst 0, 1) := of_row (r := (115, .lconst 0, 1)) DX7_heir_b1 4 rfl
theorem dX7_heir_116 : decode cX7_heir 116 = .ok (.lastore, 1) := of_row (r := (116, .lastore, 1)) DX7_heir_b1 5 rfl
theorem dX7_heir_117 : decode cX7_heir 117 = .ok (.iload_n 3, 1) := of_row (r := (117, .iload_n 3, 1)) DX7_heir_b1 6 rfl
theorem dX7_heir_118 : decode cX7_heir 118 = .ok (.ireturn, 1) := of_row (r := (118, .ireturn, 1)) DX7_heir_b1 7 rfl
set_option maxRecDepth 20000 in
theorem DX7_about_b0 : ([(0, .aload_n 0, 1), (1, .iload_n 1, 1), (2, .invokevirtual 308, 3), (5, .ifCond .ne 6, 3), (8, .bipush (-2), 2), (10, .ireturn, 1), (11, .iload_n 2, 1), (12, .tableswitch 93 0 6 #[44, 51, 58, 65, 72, 79, 86], 44), (56, .aload_n 0, 1), (57, .getfield 50, 3), (60, .iload_n 1, 1), (61, .iaload, 1), (62, .ireturn, 1), (63, .aload_n 0, 1), (64, .getfield 53, 3), (67, .iload_n 1, 1), (68, .iaload, 1), (69, .ireturn, 1), (70, .aload_n 0, 1), (71, .getfield 56, 3), (74, .iload_n 1, 1), (75, .iaload, 1), (76, .ireturn, 1), (77, .aload_n 0, 1), (78, .getfield 59, 3), (81, .iload_n 1, 1), (82, .iaload, 1), (83, .ireturn, 1), (84, .aload_n 0, 1), (85, .getfield 62, 3), (88, .iload_n 1, 1), (89, .iaload, 1), (90, .ireturn, 1), (91, .aload_n 0, 1), (92, .getfield 65, 3), (95, .iload_n 1, 1), (96, .iaload, 1), (97, .ireturn, 1), (98, .aload_n 0, 1), (99, .getfield 68, 3), (102, .iload_n 1, 1), (103, .iaload, 1), (104, .ireturn, 1), (105, .bipush (-2), 2), (107, .ireturn, 1)] : List (Nat × Instr × Nat)).all (fun r => decide (decode cX7_about r.1 = .ok r.2)) = true := by decide +kernel
theorem dX7_about_0 : decode cX7_about 0 = .ok (.aload_n 0, 1) := of_row (r := (0, .aload_n 0, 1)) DX7_about_b0 0 rfl
theorem dX7_about_1 : decode cX7_about 1 = .ok (.iload_n 1, 1) := of_row (r := (1, .iload_n 1, 1)) DX7_about_b0 1 rfl
theorem dX7_about_2 : decode cX7_about 2 = .ok (.invokevirtual 308, 3) := of_row (r := (2, .invokevirtual 308, 3)) DX7_about_b0 2 rfl
theorem dX7_about_5 : decode cX7_about 5 = .ok (.ifCond .ne 6, 3) := of_row (r := (5, .ifCond .ne 6, 3)) DX7_about_b0 3 rfl
theorem dX7_about_8 : decode cX7_about 8 = .ok (.bipush (-2), 2) := of_row (r := (8, .bipush (-2), 2)) DX7_about_b0 4 rfl
theorem dX7_about_10 : decode cX7_about 10 = .ok (.ireturn, 1) := of_row (r := (10, .ireturn, 1)) DX7_about_b0 5 rfl
theorem dX7_about_11 : decode cX7_about 11 = .ok (.iload_n 2, 1) := of_row (r := (11, .iload_n 2, 1)) DX7_about_b0 6 rfl
theorem dX7_about_12 : decode cX7_about 12 = .ok (.tableswitch 93 0 6 #[44, 51, 58, 65, 72, 79, 86], 44) := of_row (r := (12, .tableswitch 93 0 6 #[44, 51, 58, 65, 72, 79, 86], 44)) DX7_about_b0 7 rfl
theorem dX7_about_56 : decode cX7_about 56 = .ok (.aload_n 0, 1) := of_row (r := (56, .aload_n 0, 1)) DX7_about_b0 8 rfl
theorem dX7_about_57 : decode cX7_about 57 = .ok (.getfield 50, 3) := of_row (r := (57, .getfield 50, 3)) DX7_about_b0 9 rfl
theorem dX7_about_60 : decode cX7_about 60 = .ok (.iload_n 1, 1) := of_row (r := (60, .iload_n 1, 1)) DX7_about_b0 10 rfl
theorem dX7_about_61 : decode cX7_about 61 = .ok (.iaload, 1) := of_row (r := (61, .iaload, 1)) DX7_about_b0 11 rfl
theorem dX7_about_62 : decode cX7_about 62 = .ok (.ireturn, 1) := of_row (r := (62, .ireturn, 1)) DX7_about_b0 12 rfl
theorem dX7_about_63 : decode cX7_about 63 = .ok (.aload_n 0, 1) := of_row (r := (63, .aload_n 0, 1)) DX7_about_b0 13 rfl
theorem dX7_about_64 : decode cX7_about 64 = .ok (.getfield 53, 3) := of_row (r := (64, .getfield 53, 3)) DX7_about_b0 14 rfl
theorem dX7_about_67 : decode cX7_about 67 = .ok (.iload_n 1, 1) := of_row (r := (67, .iload_n 1, 1)) DX7_about_b0 15 rfl
theorem dX7_about_68 : decode cX7_about 68 = .ok (.iaload, 1) := of_row (r := (68, .iaload, 1)) DX7_about_b0 16 rfl
theorem dX7_about_69 : decode cX7_about 69 = .ok (.ireturn, 1) := of_row (r := (69, .ireturn, 1)) DX7_about_b0 17 rfl
theorem dX7_about_70 : decode cX7_about 70 = .ok (.aload_n 0, 1) := of_row (r := (70, .aload_n 0, 1)) DX7_about_b0 18 rfl
theorem dX7_about_71 : decode cX7_about 71 = .ok (.getfield 56, 3) := of_row (r := (71, .getfield 56, 3)) DX7_about_b0 19 rfl
theorem dX7_about_74 : decode cX7_about 74 = .ok (.iload_n 1, 1) := of_row (r := (74, .iload_n 1, 1)) DX7_about_b0 20 rfl
theorem dX7_about_75 : decode cX7_about 75 = .ok (.iaload, 1) := of_row (r := (75, .iaload, 1)) DX7_about_b0 21 rfl
theorem dX7_about_76 : decode cX7_about 76 = .ok (.ireturn, 1) := of_row (r := (76, .ireturn, 1)) DX7_about_b0 22 rfl
theorem dX7_about_77 : decode cX7_about 77 = .ok (.aload_n 0, 1) := of_row (r := (77, .aload_n 0, 1)) DX7_about_b0 23 rfl
theorem dX7_about_78 : decode cX7_about 78 = .ok (.getfield 59, 3) := of_row (r := (78, .getfield 59, 3)) DX7_about_b0 24 rfl
theorem dX7_about_81 : decode cX7_about 81 = .ok (.iload_n 1, 1) := of_row (r := (81, .iload_n 1, 1)) DX7_about_b0 25 rfl
theorem dX7_about_82 : decode cX7_about 82 = .ok (.iaload, 1) := of_row (r := (82, .iaload, 1)) DX7_about_b0 26 rfl
theorem dX7_about_83 : decode cX7_about 83 = .ok (.ireturn, 1) := of_row (r := (83, .ireturn, 1)) DX7_about_b0 27 rfl
theorem dX7_about_84 : decode cX7_about 84 = .ok (.aload_n 0, 1) := of_row (r := (84, .aload_n 0, 1)) DX7_about_b0 28 rfl
theorem dX7_about_85 : decode cX7_about 85 = .ok (.getfield 62, 3) := of_row (r := (85, .getfield 62, 3)) DX7_about_b0 29 rfl
theorem dX7_about_88 : decode cX7_about 88 = .ok (.iload_n 1, 1) := of_row (r := (88, .iload_n 1, 1)) DX7_about_b0 30 rfl
theorem dX7_about_89 : decode cX7_about 89 = .ok (.iaload, 1) := of_row (r := (89, .iaload, 1)) DX7_about_b0 31 rfl
theorem dX7_about_90 : decode cX7_about 90 = .ok (.ireturn, 1) := of_row (r := (90, .ireturn, 1)) DX7_about_b0 32 rfl
theorem dX7_about_91 : decode cX7_about 91 = .ok (.aload_n 0, 1) := of_row (r := (91, .aload_n 0, 1)) DX7_about_b0 33 rfl
theorem dX7_about_92 : decode cX7_about 92 = .ok (.getfield 65, 3) := of_row (r := (92, .getfield 65, 3)) DX7_about_b0 34 rfl
theorem dX7_about_95 : decode cX7_about 95 = .ok (.iload_n 1, 1) := of_row (r := (95, .iload_n 1, 1)) DX7_about_b0 35 rfl
theorem dX7_about_96 : decode cX7_about 96 = .ok (.iaload, 1) := of_row (r := (96, .iaload, 1)) DX7_about_b0 36 rfl
theorem dX7_about_97 : decode cX7_about 97 = .ok (.ireturn, 1) := of_row (r := (97, .ireturn, 1)) DX7_about_b0 37 rfl
theorem dX7_about_98 : decode cX7_about 98 = .ok (.aload_n 0, 1) := of_row (r := (98, .aload_n 0, 1)) DX7_about_b0 38 rfl
theorem dX7_about_99 : decode cX7_about 99 = .ok (.getfield 68, 3) := of_row (r := (99, .getfield 68, 3)) DX7_about_b0 39 rfl
theorem dX7_about_102 : decode cX7_about 102 = .ok (.iload_n 1, 1) := of_row (r := (102, .iload_n 1, 1)) DX7_about_b0 40 rfl
theorem dX7_about_103 : decode cX7_about 103 = .ok (.iaload, 1) := of_row (r := (103, .iaload, 1)) DX7_about_b0 41 rfl
theorem dX7_about_104 : decode cX7_about 104 = .ok (.ireturn, 1) := of_row (r := (104, .ireturn, 1)) DX7_about_b0 42 rfl
theorem dX7_about_105 : decode cX7_about 105 = .ok (.bipush (-2), 2) := of_row (r := (105, .bipush (-2), 2)) DX7_about_b0 43 rfl
theorem dX7_about_107 : decode cX7_about 107 = .ok (.ireturn, 1) := of_row (r := (107, .ireturn, 1)) DX7_about_b0 44 rfl
set_option maxRecDepth 20000 in
theorem DX7_owe_b0 : ([(0, .iload_n 1, 1), (1, .invokestatic 281, 3), (4, .ifCond .ne 7, 3), (7, .ldc2_w 338, 3), (10, .lreturn, 1), (11, .iload_n 2, 1), (12, .tableswitch 90 0 4 #[36, 42, 49, 64, 71], 36), (48, .aload_n 0, 1), (49, .iload_n 1, 1), (50, .invokevirtual 289, 3), (53, .lreturn, 1), (54, .aload_n 0, 1), (55, .getfield 71, 3), (58, .iload_n 1, 1), (59, .laload, 1), (60, .lreturn, 1), (61, .aload_n 0, 1), (62, .getfield 75, 3), (65, .iload_n 1, 1), (66, .baload, 1), (67, .ifCond .eq 7, 3), (70, .lconst 1, 1), (71, .goto 4, 3), (74, .lconst 0, 1), (75, .lreturn, 1), (76, .aload_n 0, 1), (77, .iload_n 1, 1), (78, .invokevirtual 316, 3), (81, .i2l, 1), (82, .lreturn, 1), (83, .aload_n 0, 1), (84, .getfield 79, 3), (87, .iload_n 1, 1), (88, .iaload, 1), (89, .aload_n 0, 1), (90, .getfield 267, 3), (93, .if_icmp .ne 7, 3), (96, .lconst 1, 1), (97, .goto 4, 3), (100, .lconst 0, 1), (101, .lreturn, 1), (102, .ldc2_w 338, 3), (105, .lreturn, 1)] : List (Nat × Instr × Nat)).all (fun r => decide (decode cX7_owe r.1 = .ok r.2)) = true := by decide +kernel
theorem dX7_owe_0 : decode cX7_owe 0 = .ok (.iload_n 1, 1) := of_row (r := (0, .iload_n 1, 1)) DX7_owe_b0 0 rfl
theorem dX7_owe_1 : decode cX7_owe 1 = .ok (.invokestatic 281, 3) := of_row (r := (1, .invokestatic 281, 3)) DX7_owe_b0 1 rfl
theorem dX7_owe_4 : decode cX7_owe 4 = .ok (.ifCond .ne 7, 3) := of_row (r := (4, .ifCond .ne 7, 3)) DX7_owe_b0 2 rfl
theorem dX7_owe_7 : decode cX7_owe 7 = .ok (.ldc2_w 338, 3) := of_row (r := (7, .ldc2_w 338, 3)) DX7_owe_b0 3 rfl
theorem dX7_owe_10 : decode cX7_owe 10 = .ok (.lreturn, 1) := of_row (r := (10, .lreturn, 1)) DX7_owe_b0 4 rfl
theorem dX7_owe_11 : decode cX7_owe 11 = .ok (.iload_n 2, 1) := of_row (r := (11, .iload_n 2, 1)) DX7_owe_b0 5 rfl
theorem dX7_owe_12 : decode cX7_owe 12 = .ok (.tableswitch 90 0 4 #[36, 42, 49, 64, 71], 36) := of_row (r := (12, .tableswitch 90 0 4 #[36, 42, 49, 64, 71], 36)) DX7_owe_b0 6 rfl
theorem dX7_owe_48 : decode cX7_owe 48 = .ok (.aload_n 0, 1) := of_row (r := (48, .aload_n 0, 1)) DX7_owe_b0 7 rfl
theorem dX7_owe_49 : decode cX7_owe 49 = .ok (.iload_n 1, 1) := of_row (r := (49, .iload_n 1, 1)) DX7_owe_b0 8 rfl
theorem dX7_owe_50 : decode cX7_owe 50 = .ok (.invokevirtual 289, 3) := of_row (r := (50, .invokevirtual 289, 3)) DX7_owe_b0 9 rfl
theorem dX7_owe_53 : decode cX7_owe 53 = .ok (.lreturn, 1) := of_row (r := (53, .lreturn, 1)) DX7_owe_b0 10 rfl
theorem dX7_owe_54 : decode cX7_owe 54 = .ok (.aload_n 0, 1) := of_row (r := (54, .aload_n 0, 1)) DX7_owe_b0 11 rfl
theorem dX7_owe_55 : decode cX7_owe 55 = .ok (.getfield 71, 3) := of_row (r := (55, .getfield 71, 3)) DX7_owe_b0 12 rfl
theorem dX7_owe_58 : decode cX7_owe 58 = .ok (.iload_n 1, 1) := of_row (r := (58, .iload_n 1, 1)) DX7_owe_b0 13 rfl
theorem dX7_owe_59 : decode cX7_owe 59 = .ok (.laload, 1) := of_row (r := (59, .laload, 1)) DX7_owe_b0 14 rfl
theorem dX7_owe_60 : decode cX7_owe 60 = .ok (.lreturn, 1) := of_row (r := (60, .lreturn, 1)) DX7_owe_b0 15 rfl
theorem dX7_owe_61 : decode cX7_owe 61 = .ok (.aload_n 0, 1) := of_row (r := (61, .aload_n 0, 1)) DX7_owe_b0 16 rfl
theorem dX7_owe_62 : decode cX7_owe 62 = .ok (.getfield 75, 3) := of_row (r := (62, .getfield 75, 3)) DX7_owe_b0 17 rfl
theorem dX7_owe_65 : decode cX7_owe 65 = .ok (.iload_n 1, 1) := of_row (r := (65, .iload_n 1, 1)) DX7_owe_b0 18 rfl
theorem dX7_owe_66 : decode cX7_owe 66 = .ok (.baload, 1) := of_row (r := (66, .baload, 1)) DX7_owe_b0 19 rfl
theorem dX7_owe_67 : decode cX7_owe 67 = .ok (.ifCond .eq 7, 3) := of_row (r := (67, .ifCond .eq 7, 3)) DX7_owe_b0 20 rfl
theorem dX7_owe_70 : decode cX7_owe 70 = .ok (.lconst 1, 1) := of_row (r := (70, .lconst 1, 1)) DX7_owe_b0 21 rfl
theorem dX7_owe_71 : decode cX7_owe 71 = .ok (.goto 4, 3) := of_row (r := (71, .goto 4, 3)) DX7_owe_b0 22 rfl
theorem dX7_owe_74 : decode cX7_owe 74 = .ok (.lconst 0, 1) := of_row (r := (74, .lconst 0, 1)) DX7_owe_b0 23 rfl
theorem dX7_owe_75 : decode cX7_owe 75 = .ok (.lreturn, 1) := of_row (r := (75, .lreturn, 1)) DX7_owe_b0 24 rfl
theorem dX7_owe_76 : decode cX7_owe 76 = .ok (.aload_n 0, 1) := of_row (r := (76, .aload_n 0, 1)) DX7_owe_b0 25 rfl
theorem dX7_owe_77 : decode cX7_owe 77 = .ok (.iload_n 1, 1) := of_row (r := (77, .iload_n 1, 1)) DX7_owe_b0 26 rfl
theorem dX7_owe_78 : decode cX7_owe 78 = .ok (.invokevirtual 316, 3) := of_row (r := (78, .invokevirtual 316, 3)) DX7_owe_b0 27 rfl
theorem dX7_owe_81 : decode cX7_owe 81 = .ok (.i2l, 1) := of_row (r := (81, .i2l, 1)) DX7_owe_b0 28 rfl
theorem dX7_owe_82 : decode cX7_owe 82 = .ok (.lreturn, 1) := of_row (r := (82, .lreturn, 1)) DX7_owe_b0 29 rfl
theorem dX7_owe_83 : decode cX7_owe 83 = .ok (.aload_n 0, 1) := of_row (r := (83, .aload_n 0, 1)) DX7_owe_b0 30 rfl
theorem dX7_owe_84 : decode cX7_owe 84 = .ok (.getfield 79, 3) := of_row (r := (84, .getfield 79, 3)) DX7_owe_b0 31 rfl
theorem dX7_owe_87 : decode cX7_owe 87 = .ok (.iload_n 1, 1) := of_row (r := (87, .iload_n 1, 1)) DX7_owe_b0 32 rfl
theorem dX7_owe_88 : decode cX7_owe 88 = .ok (.iaload, 1) := of_row (r := (88, .iaload, 1)) DX7_owe_b0 33 rfl
theorem dX7_owe_89 : decode cX7_owe 89 = .ok (.aload_n 0, 1) := of_row (r := (89, .aload_n 0, 1)) DX7_owe_b0 34 rfl
theorem dX7_owe_90 : decode cX7_owe 90 = .ok (.getfield 267, 3) := of_row (r := (90, .getfield 267, 3)) DX7_owe_b0 35 rfl
theorem dX7_owe_93 : decode cX7_owe 93 = .ok (.if_icmp .ne 7, 3) := of_row (r := (93, .if_icmp .ne 7, 3)) DX7_owe_b0 36 rfl
theorem dX7_owe_96 : decode cX7_owe 96 = .ok (.lconst 1, 1) := of_row (r := (96, .lconst 1, 1)) DX7_owe_b0 37 rfl
theorem dX7_owe_97 : decode cX7_owe 97 = .ok (.goto 4, 3) := of_row (r := (97, .goto 4, 3)) DX7_owe_b0 38 rfl
theorem dX7_owe_100 : decode cX7_owe 100 = .ok (.lconst 0, 1) := of_row (r := (100, .lconst 0, 1)) DX7_owe_b0 39 rfl
theorem dX7_owe_101 : decode cX7_owe 101 = .ok (.lreturn, 1) := of_row (r := (101, .lreturn, 1)) DX7_owe_b0 40 rfl
theorem dX7_owe_102 : decode cX7_owe 102 = .ok (.ldc2_w 338, 3) := of_row (r := (102, .ldc2_w 338, 3)) DX7_owe_b0 41 rfl
theorem dX7_owe_105 : decode cX7_owe 105 = .ok (.lreturn, 1) := of_row (r := (105, .lreturn, 1)) DX7_owe_b0 42 rfl
set_option maxRecDepth 20000 in
theorem DX7_line_b0 : ([(0, .iload_n 1, 1), (1, .iconst 0, 1), (2, .aload_n 0, 1), (3, .getfield 319, 3), (6, .iconst 1, 1), (7, .isub, 1), (8, .invokestatic 132, 3), (11, .ifCond .ne 6, 3), (14, .bipush (-2), 2), (16, .ireturn, 1), (17, .iload_n 2, 1), (18, .tableswitch 102 0 7 #[46, 53, 60, 67, 74, 81, 88, 95], 46), (64, .aload_n 0, 1), (65, .getfield 85, 3), (68, .iload_n 1, 1), (69, .iaload, 1), (70, .ireturn, 1), (71, .aload_n 0, 1), (72, .getfield 88, 3), (75, .iload_n 1, 1), (76, .iaload, 1), (77, .ireturn, 1), (78, .aload_n 0, 1), (79, .getfield 91, 3), (82, .iload_n 1, 1), (83, .iaload, 1), (84, .ireturn, 1), (85, .aload_n 0, 1), (86, .getfield 94, 3), (89, .iload_n 1, 1), (90, .iaload, 1), (91, .ireturn, 1), (92, .aload_n 0, 1), (93, .getfield 97, 3), (96, .iload_n 1, 1), (97, .iaload, 1), (98, .ireturn, 1), (99, .aload_n 0, 1), (100, .getfield 100, 3), (103, .iload_n 1, 1), (104, .iaload, 1), (105, .ireturn, 1), (106, .aload_n 0, 1), (107, .getfield 103, 3), (110, .iload_n 1, 1), (111, .iaload, 1), (112, .ireturn, 1), (113, .aload_n 0, 1), (114, .getfield 106, 3), (117, .iload_n 1, 1), (118, .iaload, 1), (119, .ireturn, 1), (120, .bipush (-2), 2), (122, .ireturn, 1)] : List (Nat × Instr × Nat)).all (fun r => decide (decode cX7_line r.1 = .ok r.2)) = true := by decide +kernel
theorem dX7_line_0 : decode cX7_line 0 = .ok (.iload_n 1, 1) := of_row (r := (0, .iload_n 1, 1)) DX7_line_b0 0 rfl
theorem dX7_line_1 : decode cX7_line 1 = .ok (.iconst 0, 1) := of_row (r := (1, .iconst 0, 1)) DX7_line_b0 1 rfl
theorem dX7_line_2 : decode cX7_line 2 = .ok (.aload_n 0, 1) := of_row (r := (2, .aload_n 0, 1)) DX7_line_b0 2 rfl
theorem dX7_line_3 : decode cX7_line 3 = .ok (.getfield 319, 3) := of_row (r := (3, .getfield 319, 3)) DX7_line_b0 3 rfl
theorem dX7_line_6 : decode cX7_line 6 = .ok (.iconst 1, 1) := of_row (r := (6, .iconst 1, 1)) DX7_line_b0 4 rfl
theorem dX7_line_7 : decode cX7_line 7 = .ok (.isub, 1) := of_row (r := (7, .isub, 1)) DX7_line_b0 5 rfl
theorem dX7_line_8 : decode cX7_line 8 = .ok (.invokestatic 132, 3) := of_row (r := (8, .invokestatic 132, 3)) DX7_line_b0 6 rfl
theorem dX7_line_11 : decode cX7_line 11 = .ok (.ifCond .ne 6, 3) := of_row (r := (11, .ifCond .ne 6, 3)) DX7_line_b0 7 rfl
theorem dX7_line_14 : decode cX7_line 14 = .ok (.bipush (-2), 2) := of_row (r := (14, .bipush (-2), 2)) DX7_line_b0 8 rfl
theorem dX7_line_16 : decode cX7_line 16 = .ok (.ireturn, 1) := of_row (r := (16, .ireturn, 1)) DX7_line_b0 9 rfl
theorem dX7_line_17 : decode cX7_line 17 = .ok (.iload_n 2, 1) := of_row (r := (17, .iload_n 2, 1)) DX7_line_b0 10 rfl
theorem dX7_line_18 : decode cX7_line 18 = .ok (.tableswitch 102 0 7 #[46, 53, 60, 67, 74, 81, 88, 95], 46) := of_row (r := (18, .tableswitch 102 0 7 #[46, 53, 60, 67, 74, 81, 88, 95], 46)) DX7_line_b0 11 rfl
theorem dX7_line_64 : decode cX7_line 64 = .ok (.aload_n 0, 1) := of_row (r := (64, .aload_n 0, 1)) DX7_line_b0 12 rfl
theorem dX7_line_65 : decode cX7_line 65 = .ok (.getfield 85, 3) := of_row (r := (65, .getfield 85, 3)) DX7_line_b0 13 rfl
theorem dX7_line_68 : decode cX7_line 68 = .ok (.iload_n 1, 1) := of_row (r := (68, .iload_n 1, 1)) DX7_line_b0 14 rfl
theorem dX7_line_69 : decode cX7_line 69 = .ok (.iaload, 1) := of_row (r := (69, .iaload, 1)) DX7_line_b0 15 rfl
theorem dX7_line_70 : decode cX7_line 70 = .ok (.ireturn, 1) := of_row (r := (70, .ireturn, 1)) DX7_line_b0 16 rfl
theorem dX7_line_71 : decode cX7_line 71 = .ok (.aload_n 0, 1) := of_row (r := (71, .aload_n 0, 1)) DX7_line_b0 17 rfl
theorem dX7_line_72 : decode cX7_line 72 = .ok (.getfield 88, 3) := of_row (r := (72, .getfield 88, 3)) DX7_line_b0 18 rfl
theorem dX7_line_75 : decode cX7_line 75 = .ok (.iload_n 1, 1) := of_row (r := (75, .iload_n 1, 1)) DX7_line_b0 19 rfl
theorem dX7_line_76 : decode cX7_line 76 = .ok (.iaload, 1) := of_row (r := (76, .iaload, 1)) DX7_line_b0 20 rfl
theorem dX7_line_77 : decode cX7_line 77 = .ok (.ireturn, 1) := of_row (r := (77, .ireturn, 1)) DX7_line_b0 21 rfl
theorem dX7_line_78 : decode cX7_line 78 = .ok (.aload_n 0, 1) := of_row (r := (78, .aload_n 0, 1)) DX7_line_b0 22 rfl
theorem dX7_line_79 : decode cX7_line 79 = .ok (.getfield 91, 3) := of_row (r := (79, .getfield 91, 3)) DX7_line_b0 23 rfl
theorem dX7_line_82 : decode cX7_line 82 = .ok (.iload_n 1, 1) := of_row (r := (82, .iload_n 1, 1)) DX7_line_b0 24 rfl
theorem dX7_line_83 : decode cX7_line 83 = .ok (.iaload, 1) := of_row (r := (83, .iaload, 1)) DX7_line_b0 25 rfl
theorem dX7_line_84 : decode cX7_line 84 = .ok (.ireturn, 1) := of_row (r := (84, .ireturn, 1)) DX7_line_b0 26 rfl
theorem dX7_line_85 : decode cX7_line 85 = .ok (.aload_n 0, 1) := of_row (r := (85, .aload_n 0, 1)) DX7_line_b0 27 rfl
theorem dX7_line_86 : decode cX7_line 86 = .ok (.getfield 94, 3) := of_row (r := (86, .getfield 94, 3)) DX7_line_b0 28 rfl
theorem dX7_line_89 : decode cX7_line 89 = .ok (.iload_n 1, 1) := of_row (r := (89, .iload_n 1, 1)) DX7_line_b0 29 rfl
theorem dX7_line_90 : decode cX7_line 90 = .ok (.iaload, 1) := of_row (r := (90, .iaload, 1)) DX7_line_b0 30 rfl
theorem dX7_line_91 : decode cX7_line 91 = .ok (.ireturn, 1) := of_row (r := (91, .ireturn, 1)) DX7_line_b0 31 rfl
theorem dX7_line_92 : decode cX7_line 92 = .ok (.aload_n 0, 1) := of_row (r := (92, .aload_n 0, 1)) DX7_line_b0 32 rfl
theorem dX7_line_93 : decode cX7_line 93 = .ok (.getfield 97, 3) := of_row (r := (93, .getfield 97, 3)) DX7_line_b0 33 rfl
theorem dX7_line_96 : decode cX7_line 96 = .ok (.iload_n 1, 1) := of_row (r := (96, .iload_n 1, 1)) DX7_line_b0 34 rfl
theorem dX7_line_97 : decode cX7_line 97 = .ok (.iaload, 1) := of_row (r := (97, .iaload, 1)) DX7_line_b0 35 rfl
theorem dX7_line_98 : decode cX7_line 98 = .ok (.ireturn, 1) := of_row (r := (98, .ireturn, 1)) DX7_line_b0 36 rfl
theorem dX7_line_99 : decode cX7_line 99 = .ok (.aload_n 0, 1) := of_row (r := (99, .aload_n 0, 1)) DX7_line_b0 37 rfl
theorem dX7_line_100 : decode cX7_line 100 = .ok (.getfield 100, 3) := of_row (r := (100, .getfield 100, 3)) DX7_line_b0 38 rfl
theorem dX7_line_103 : decode cX7_line 103 = .ok (.iload_n 1, 1) := of_row (r := (103, .iload_n 1, 1)) DX7_line_b0 39 rfl
theorem dX7_line_104 : decode cX7_line 104 = .ok (.iaload, 1) := of_row (r := (104, .iaload, 1)) DX7_line_b0 40 rfl
theorem dX7_line_105 : decode cX7_line 105 = .ok (.ireturn, 1) := of_row (r := (105, .ireturn, 1)) DX7_line_b0 41 rfl
theorem dX7_line_106 : decode cX7_line 106 = .ok (.aload_n 0, 1) := of_row (r := (106, .aload_n 0, 1)) DX7_line_b0 42 rfl
theorem dX7_line_107 : decode cX7_line 107 = .ok (.getfield 103, 3) := of_row (r := (107, .getfield 103, 3)) DX7_line_b0 43 rfl
theorem dX7_line_110 : decode cX7_line 110 = .ok (.iload_n 1, 1) := of_row (r := (110, .iload_n 1, 1)) DX7_line_b0 44 rfl
theorem dX7_line_111 : decode cX7_line 111 = .ok (.iaload, 1) := of_row (r := (111, .iaload, 1)) DX7_line_b0 45 rfl
theorem dX7_line_112 : decode cX7_line 112 = .ok (.ireturn, 1) := of_row (r := (112, .ireturn, 1)) DX7_line_b0 46 rfl
theorem dX7_line_113 : decode cX7_line 113 = .ok (.aload_n 0, 1) := of_row (r := (113, .aload_n 0, 1)) DX7_line_b0 47 rfl
theorem dX7_line_114 : decode cX7_line 114 = .ok (.getfield 106, 3) := of_row (r := (114, .getfield 106, 3)) DX7_line_b0 48 rfl
theorem dX7_line_117 : decode cX7_line 117 = .ok (.iload_n 1, 1) := of_row (r := (117, .iload_n 1, 1)) DX7_line_b0 49 rfl
theorem dX7_line_118 : decode cX7_line 118 = .ok (.iaload, 1) := of_row (r := (118, .iaload, 1)) DX7_line_b0 50 rfl
theorem dX7_line_119 : decode cX7_line 119 = .ok (.ireturn, 1) := of_row (r := (119, .ireturn, 1)) DX7_line_b0 51 rfl
theorem dX7_line_120 : decode cX7_line 120 = .ok (.bipush (-2), 2) := of_row (r := (120, .bipush (-2), 2)) DX7_line_b0 52 rfl
theorem dX7_line_122 : decode cX7_line 122 = .ok (.ireturn, 1) := of_row (r := (122, .ireturn, 1)) DX7_line_b0 53 rfl
set_option maxRecDepth 20000 in
theorem DX7_as_b0 : ([(0, .aload_n 0, 1), (1, .iload_n 1, 1), (2, .invokevirtual 308, 3), (5, .ifCond .eq 15, 3), (8, .iload_n 2, 1), (9, .iconst 0, 1), (10, .aload_n 0, 1), (11, .getfield 267, 3), (14, .invokestatic 132, 3), (17, .ifCond .ne 6, 3), (20, .bipush (-2), 2), (22, .ireturn, 1), (23, .aload_n 0, 1), (24, .getfield 62, 3), (27, .iload_n 1, 1), (28, .iaload, 1), (29, .iload_n 2, 1), (30, .if_icmp .le 5, 3), (33, .iconst (-1), 1), (34, .ireturn, 1), (35, .aload_n 0, 1), (36, .getfield 56, 3), (39, .iload_n 1, 1), (40, .iaload, 1), (41, .istore_n 3, 1), (42, .iconst 0, 1), (43, .istore 4, 2), (45, .iload 4, 2), (47, .aload_n 0, 1), (48, .getfield 319, 3), (51, .if_icmp .ge 45, 3), (54, .iload_n 3, 1), (55, .aload_n 0, 1), (56, .getfield 91, 3), (59, .iload 4, 2), (61, .iaload, 1), (62, .iload_n 1, 1), (63, .if_icmp .ne 24, 3), (66, .aload_n 0, 1), (67, .getfield 85, 3), (70, .iload 4, 2), (72, .iaload, 1), (73, .iload_n 2, 1), (74, .if_icmp .gt 13, 3), (77, .aload_n 0, 1), (78, .getfield 109, 3), (81, .iload 4, 2), (83, .iaload, 1), (84, .goto 4, 3), (87, .iconst 0, 1), (88, .isub, 1), (89, .istore_n 3, 1), (90, .iinc 4 1, 3), (93, .goto (-48), 3), (96, .iload_n 3, 1), (97, .ireturn, 1)] : List (Nat × Instr × Nat)).all (fun r => decide (decode cX7_as r.1 = .ok r.2)) = true := by decide +kernel
theorem dX7_as_0 : decode cX7_as 0 = .ok (.aload_n 0, 1) := of_row (r := (0, .aload_n 0, 1)) DX7_as_b0 0 rfl
theorem dX7_as_1 : decode cX7_as 1 = .ok (.iload_n 1, 1) := of_row (r := (1, .iload_n 1, 1)) DX7_as_b0 1 rfl
theorem dX7_as_2 : decode cX7_as 2 = .ok (.invokevirtual 308, 3) := of_row (r := (2, .invokevirtual 308, 3)) DX7_as_b0 2 rfl
theorem dX7_as_5 : decode cX7_as 5 = .ok (.ifCond .eq 15, 3) := of_row (r := (5, .ifCond .eq 15, 3)) DX7_as_b0 3 rfl
theorem dX7_as_8 : decode cX7_as 8 = .ok (.iload_n 2, 1) := of_row (r := (8, .iload_n 2, 1)) DX7_as_b0 4 rfl
theorem dX7_as_9 : decode cX7_as 9 = .ok (.iconst 0, 1) := of_row (r := (9, .iconst 0, 1)) DX7_as_b0 5 rfl
theorem dX7_as_10 : decode cX7_as 10 = .ok (.aload_n 0, 1) := of_row (r := (10, .aload_n 0, 1)) DX7_as_b0 6 rfl
theorem dX7_as_11 : decode cX7_as 11 = .ok (.getfield 267, 3) := of_row (r := (11, .getfield 267, 3)) DX7_as_b0 7 rfl
theorem dX7_as_14 : decode cX7_as 14 = .ok (.invokestatic 132, 3) := of_row (r := (14, .invokestatic 132, 3)) DX7_as_b0 8 rfl
theorem dX7_as_17 : decode cX7_as 17 = .ok (.ifCond .ne 6, 3) := of_row (r := (17, .ifCond .ne 6, 3)) DX7_as_b0 9 rfl
theorem dX7_as_20 : decode cX7_as 20 = .ok (.bipush (-2), 2) := of_row (r := (20, .bipush (-2), 2)) DX7_as_b0 10 rfl
theorem dX7_as_22 : decode cX7_as 22 = .ok (.ireturn, 1) := of_row (r := (22, .ireturn, 1)) DX7_as_b0 11 rfl
theorem dX7_as_23 : decode cX7_as 23 = .ok (.aload_n 0, 1) := of_row (r := (23, .aload_n 0, 1)) DX7_as_b0 12 rfl
theorem dX7_as_24 : decode cX7_as 24 = .ok (.getfield 62, 3) := of_row (r := (24, .getfield 62, 3)) DX7_as_b0 13 rfl
theorem dX7_as_27 : decode cX7_as 27 = .ok (.iload_n 1, 1) := of_row (r := (27, .iload_n 1, 1)) DX7_as_b0 14 rfl
theorem dX7_as_28 : decode cX7_as 28 = .ok (.iaload, 1) := of_row (r := (28, .iaload, 1)) DX7_as_b0 15 rfl
theorem dX7_as_29 : decode cX7_as 29 = .ok (.iload_n 2, 1) := of_row (r := (29, .iload_n 2, 1)) DX7_as_b0 16 rfl
theorem dX7_as_30 : decode cX7_as 30 = .ok (.if_icmp .le 5, 3) := of_row (r := (30, .if_icmp .le 5, 3)) DX7_as_b0 17 rfl
theorem dX7_as_33 : decode cX7_as 33 = .ok (.iconst (-1), 1) := of_row (r := (33, .iconst (-1), 1)) DX7_as_b0 18 rfl
theorem dX7_as_34 : decode cX7_as 34 = .ok (.ireturn, 1) := of_row (r := (34, .ireturn, 1)) DX7_as_b0 19 rfl
theorem dX7_as_35 : decode cX7_as 35 = .ok (.aload_n 0, 1) := of_row (r := (35, .aload_n 0, 1)) DX7_as_b0 20 rfl
theorem dX7_as_36 : decode cX7_as 36 = .ok (.getfield 56, 3) := of_row (r := (36, .getfield 56, 3)) DX7_as_b0 21 rfl
theorem dX7_as_39 : decode cX7_as 39 = .ok (.iload_n 1, 1) := of_row (r := (39, .iload_n 1, 1)) DX7_as_b0 22 rfl
theorem dX7_as_40 : decode cX7_as 40 = .ok (.iaload, 1) := of_row (r := (40, .iaload, 1)) DX7_as_b0 23 rfl
theorem dX7_as_41 : decode cX7_as 41 = .ok (.istore_n 3, 1) := of_row (r := (41, .istore_n 3, 1)) DX7_as_b0 24 rfl
theorem dX7_as_42 : decode cX7_as 42 = .ok (.iconst 0, 1) := of_row (r := (42, .iconst 0, 1)) DX7_as_b0 25 rfl
theorem dX7_as_43 : decode cX7_as 43 = .ok (.istore 4, 2) := of_row (r := (43, .istore 4, 2)) DX7_as_b0 26 rfl
theorem dX7_as_45 : decode cX7_as 45 = .ok (.iload 4, 2) := of_row (r := (45, .iload 4, 2)) DX7_as_b0 27 rfl
theorem dX7_as_47 : decode cX7_as 47 = .ok (.aload_n 0, 1) := of_row (r := (47, .aload_n 0, 1)) DX7_as_b0 28 rfl
theorem dX7_as_48 : decode cX7_as 48 = .ok (.getfield 319, 3) := of_row (r := (48, .getfield 319, 3)) DX7_as_b0 29 rfl
theorem dX7_as_51 : decode cX7_as 51 = .ok (.if_icmp .ge 45, 3) := of_row (r := (51, .if_icmp .ge 45, 3)) DX7_as_b0 30 rfl
theorem dX7_as_54 : decode cX7_as 54 = .ok (.iload_n 3, 1) := of_row (r := (54, .iload_n 3, 1)) DX7_as_b0 31 rfl
theorem dX7_as_55 : decode cX7_as 55 = .ok (.aload_n 0, 1) := of_row (r := (55, .aload_n 0, 1)) DX7_as_b0 32 rfl
theorem dX7_as_56 : decode cX7_as 56 = .ok (.getfield 91, 3) := of_row (r := (56, .getfield 91, 3)) DX7_as_b0 33 rfl
theorem dX7_as_59 : decode cX7_as 59 = .ok (.iload 4, 2) := of_row (r := (59, .iload 4, 2)) DX7_as_b0 34 rfl
theorem dX7_as_61 : decode cX7_as 61 = .ok (.iaload, 1) := of_row (r := (61, .iaload, 1)) DX7_as_b0 35 rfl
theorem dX7_as_62 : decode cX7_as 62 = .ok (.iload_n 1, 1) := of_row (r := (62, .iload_n 1, 1)) DX7_as_b0 36 rfl
theorem dX7_as_63 : decode cX7_as 63 = .ok (.if_icmp .ne 24, 3) := of_row (r := (63, .if_icmp .ne 24, 3)) DX7_as_b0 37 rfl
theorem dX7_as_66 : decode cX7_as 66 = .ok (.aload_n 0, 1) := of_row (r := (66, .aload_n 0, 1)) DX7_as_b0 38 rfl
theorem dX7_as_67 : decode cX7_as 67 = .ok (.getfield 85, 3) := of_row (r := (67, .getfield 85, 3)) DX7_as_b0 39 rfl
theorem dX7_as_70 : decode cX7_as 70 = .ok (.iload 4, 2) := of_row (r := (70, .iload 4, 2)) DX7_as_b0 40 rfl
theorem dX7_as_72 : decode cX7_as 72 = .ok (.iaload, 1) := of_row (r := (72, .iaload, 1)) DX7_as_b0 41 rfl
theorem dX7_as_73 : decode cX7_as 73 = .ok (.iload_n 2, 1) := of_row (r := (73, .iload_n 2, 1)) DX7_as_b0 42 rfl
theorem dX7_as_74 : decode cX7_as 74 = .ok (.if_icmp .gt 13, 3) := of_row (r := (74, .if_icmp .gt 13, 3)) DX7_as_b0 43 rfl
theorem dX7_as_77 : decode cX7_as 77 = .ok (.aload_n 0, 1) := of_row (r := (77, .aload_n 0, 1)) DX7_as_b0 44 rfl
theorem dX7_as_78 : decode cX7_as 78 = .ok (.getfield 109, 3) := of_row (r := (78, .getfield 109, 3)) DX7_as_b0 45 rfl
theorem dX7_as_81 : decode cX7_as 81 = .ok (.iload 4, 2) := of_row (r := (81, .iload 4, 2)) DX7_as_b0 46 rfl
theorem dX7_as_83 : decode cX7_as 83 = .ok (.iaload, 1) := of_row (r := (83, .iaload, 1)) DX7_as_b0 47 rfl
theorem dX7_as_84 : decode cX7_as 84 = .ok (.goto 4, 3) := of_row (r := (84, .goto 4, 3)) DX7_as_b0 48 rfl
theorem dX7_as_87 : decode cX7_as 87 = .ok (.iconst 0, 1) := of_row (r := (87, .iconst 0, 1)) DX7_as_b0 49 rfl
theorem dX7_as_88 : decode cX7_as 88 = .ok (.isub, 1) := of_row (r := (88, .isub, 1)) DX7_as_b0 50 rfl
theorem dX7_as_89 : decode cX7_as 89 = .ok (.istore_n 3, 1) := of_row (r := (89, .istore_n 3, 1)) DX7_as_b0 51 rfl
theorem dX7_as_90 : decode cX7_as 90 = .ok (.iinc 4 1, 3) := of_row (r := (90, .iinc 4 1, 3)) DX7_as_b0 52 rfl
theorem dX7_as_93 : decode cX7_as 93 = .ok (.goto (-48), 3) := of_row (r := (93, .goto (-48), 3)) DX7_as_b0 53 rfl
theorem dX7_as_96 : decode cX7_as 96 = .ok (.iload_n 3, 1) := of_row (r := (96, .iload_n 3, 1)) DX7_as_b0 54 rfl
theorem dX7_as_97 : decode cX7_as 97 = .ok (.ireturn, 1) := of_row (r := (97, .ireturn, 1)) DX7_as_b0 55 rfl
set_option maxRecDepth 20000 in
theorem DX7_worthOf_b0 : ([(0, .iload_n 0, 1), (1, .tableswitch 52 0 4 #[35, 37, 40, 44, 48], 35), (36, .iconst 1, 1), (37, .ireturn, 1), (38, .bipush 12, 2), (40, .ireturn, 1), (41, .sipush 240, 3), (44, .ireturn, 1), (45, .sipush 4800, 3), (48, .ireturn, 1), (49, .sipush 24000, 3), (52, .ireturn, 1), (53, .ldc_w 340, 3), (56, .ireturn, 1)] : List (Nat × Instr × Nat)).all (fun r => decide (decode cX7_worthOf r.1 = .ok r.2)) = true := by decide +kernel
theorem dX7_worthOf_0 : decode cX7_worthOf 0 = .ok (.iload_n 0, 1) := of_row (r := (0, .iload_n 0, 1)) DX7_worthOf_b0 0 rfl
theorem dX7_worthOf_1 : decode cX7_worthOf 1 = .ok (.tableswitch 52 0 4 #[35, 37, 40, 44, 48], 35) := of_row (r := (1, .tableswitch 52 0 4 #[35, 37, 40, 44, 48], 35)) DX7_worthOf_b0 1 rfl
theorem dX7_worthOf_36 : decode cX7_worthOf 36 = .ok (.iconst 1, 1) := of_row (r := (36, .iconst 1, 1)) DX7_worthOf_b0 2 rfl
theorem dX7_worthOf_37 : decode cX7_worthOf 37 = .ok (.ireturn, 1) := of_row (r := (37, .ireturn, 1)) DX7_worthOf_b0 3 rfl
theorem dX7_worthOf_38 : decode cX7_worthOf 38 = .ok (.bipush 12, 2) := of_row (r := (38, .bipush 12, 2)) DX7_worthOf_b0 4 rfl
theorem dX7_worthOf_40 : decode cX7_worthOf 40 = .ok (.ireturn, 1) := of_row (r := (40, .ireturn, 1)) DX7_worthOf_b0 5 rfl
theorem dX7_worthOf_41 : decode cX7_worthOf 41 = .ok (.sipush 240, 3) := of_row (r := (41, .sipush 240, 3)) DX7_worthOf_b0 6 rfl
theorem dX7_worthOf_44 : decode cX7_worthOf 44 = .ok (.ireturn, 1) := of_row (r := (44, .ireturn, 1)) DX7_worthOf_b0 7 rfl
theorem dX7_worthOf_45 : decode cX7_worthOf 45 = .ok (.sipush 4800, 3) := of_row (r := (45, .sipush 4800, 3)) DX7_worthOf_b0 8 rfl
theorem dX7_worthOf_48 : decode cX7_worthOf 48 = .ok (.ireturn, 1) := of_row (r := (48, .ireturn, 1)) DX7_worthOf_b0 9 rfl
theorem dX7_worthOf_49 : decode cX7_worthOf 49 = .ok (.sipush 24000, 3) := of_row (r := (49, .sipush 24000, 3)) DX7_worthOf_b0 10 rfl
theorem dX7_worthOf_52 : decode cX7_worthOf 52 = .ok (.ireturn, 1) := of_row (r := (52, .ireturn, 1)) DX7_worthOf_b0 11 rfl
theorem dX7_worthOf_53 : decode cX7_worthOf 53 = .ok (.ldc_w 340, 3) := of_row (r := (53, .ldc_w 340, 3)) DX7_worthOf_b0 12 rfl
theorem dX7_worthOf_56 : decode cX7_worthOf 56 = .ok (.ireturn, 1) := of_row (r := (56, .ireturn, 1)) DX7_worthOf_b0 13 rfl
set_option maxRecDepth 20000 in
theorem DX7_notch_b0 : ([(0, .iload_n 1, 1), (1, .iconst 5, 1), (2, .if_icmp .ne 11, 3), (5, .iload_n 0, 1), (6, .ldc_w 340, 3), (9, .idiv, 1), (10, .goto 16, 3), (13, .iload_n 0, 1), (14, .iload_n 1, 1), (15, .iconst 1, 1), (16, .iadd, 1), (17, .invokestatic 341, 3), (20, .irem, 1), (21, .iload_n 1, 1), (22, .invokestatic 341, 3), (25, .idiv, 1), (26, .ireturn, 1)] : List (Nat × Instr × Nat)).all (fun r => decide (decode cX7_notch r.1 = .ok r.2)) = true := by decide +kernel
theorem dX7_notch_0 : decode cX7_notch 0 = .ok (.iload_n 1, 1) := of_row (r := (0, .iload_n 1, 1)) DX7_notch_b0 0 rfl
theorem dX7_notch_1 : decode cX7_notch 1 = .ok (.iconst 5, 1) := of_row (r := (1, .iconst 5, 1)) DX7_notch_b0 1 rfl
theorem dX7_notch_2 : decode cX7_notch 2 = .ok (.if_icmp .ne 11, 3) := of_row (r := (2, .if_icmp .ne 11, 3)) DX7_notch_b0 2 rfl
theorem dX7_notch_5 : decode cX7_notch 5 = .ok (.iload_n 0, 1) := of_row (r := (5, .iload_n 0, 1)) DX7_notch_b0 3 rfl
theorem dX7_notch_6 : decode cX7_notch 6 = .ok (.ldc_w 340, 3) := of_row (r := (6, .ldc_w 340, 3)) DX7_notch_b0 4 rfl
theorem dX7_notch_9 : decode cX7_notch 9 = .ok (.idiv, 1) := of_row (r := (9, .idiv, 1)) DX7_notch_b0 5 rfl
theorem dX7_notch_10 : decode cX7_notch 10 = .ok (.goto 16, 3) := of_row (r := (10, .goto 16, 3)) DX7_notch_b0 6 rfl
theorem dX7_notch_13 : decode cX7_notch 13 = .ok (.iload_n 0, 1) := of_row (r := (13, .iload_n 0, 1)) DX7_notch_b0 7 rfl
theorem dX7_notch_14 : decode cX7_notch 14 = .ok (.iload_n 1, 1) := of_row (r := (14, .iload_n 1, 1)) DX7_notch_b0 8 rfl
theorem dX7_notch_15 : decode cX7_notch 15 = .ok (.iconst 1, 1) := of_row (r := (15, .iconst 1, 1)) DX7_notch_b0 9 rfl
theorem dX7_notch_16 : decode cX7_notch 16 = .ok (.iadd, 1) := of_row (r := (16, .iadd, 1)) DX7_notch_b0 10 rfl
theorem dX7_notch_17 : decode cX7_notch 17 = .ok (.invokestatic 341, 3) := of_row (r := (17, .invokestatic 341, 3)) DX7_notch_b0 11 rfl
theorem dX7_notch_20 : decode cX7_notch 20 = .ok (.irem, 1) := of_row (r := (20, .irem, 1)) DX7_notch_b0 12 rfl
theorem dX7_notch_21 : decode cX7_notch 21 = .ok (.iload_n 1, 1) := of_row (r := (21, .iload_n 1, 1)) DX7_notch_b0 13 rfl
theorem dX7_notch_22 : decode cX7_notch 22 = .ok (.invokestatic 341, 3) := of_row (r := (22, .invokestatic 341, 3)) DX7_notch_b0 14 rfl
theorem dX7_notch_25 : decode cX7_notch 25 = .ok (.idiv, 1) := of_row (r := (25, .idiv, 1)) DX7_notch_b0 15 rfl
theorem dX7_notch_26 : decode cX7_notch 26 = .ok (.ireturn, 1) := of_row (r := (26, .ireturn, 1)) DX7_notch_b0 16 rfl
set_option maxRecDepth 20000 in
theorem DX7_stick_b0 : ([(0, .iload_n 1, 1), (1, .iconst 0, 1), (2, .aload_n 0, 1), (3, .getfield 322, 3), (6, .iconst 1, 1), (7, .isub, 1), (8, .invokestatic 132, 3), (11, .ifCond .eq 12, 3), (14, .iload_n 2, 1), (15, .iconst (-1), 1), (16, .iconst 5, 1), (17, .invokestatic 132, 3), (20, .ifCond .ne 7, 3), (23, .iconst (-1), 1), (24, .goto 26, 3), (27, .iload_n 2, 1), (28, .ifCond .ge 12, 3), (31, .aload_n 0, 1), (32, .getfield 112, 3), (35, .iload_n 1, 1), (36, .iaload, 1), (37, .goto 13, 3), (40, .aload_n 0, 1), (41, .getfield 112, 3), (44, .iload_n 1, 1), (45, .iaload, 1), (46, .iload_n 2, 1), (47, .invokestatic 344, 3), (50, .ireturn, 1)] : List (Nat × Instr × Nat)).all (fun r => decide (decode cX7_stick r.1 = .ok r.2)) = true := by decide +kernel
theorem dX7_stick_0 : decode cX7_stick 0 = .ok (.iload_n 1, 1) := of_row (r := (0, .iload_n 1, 1)) DX7_stick_b0 0 rfl
theorem dX7_stick_1 : decode cX7_stick 1 = .ok (.iconst 0, 1) := of_row (r := (1, .iconst 0, 1)) DX7_stick_b0 1 rfl
theorem dX7_stick_2 : decode cX7_stick 2 = .ok (.aload_n 0, 1) := of_row (r := (2, .aload_n 0, 1)) DX7_stick_b0 2 rfl
theorem dX7_stick_3 : decode cX7_stick 3 = .ok (.getfield 322, 3) := of_row (r := (3, .getfield 322, 3)) DX7_stick_b0 3 rfl
theorem dX7_stick_6 : decode cX7_stick 6 = .ok (.iconst 1, 1) := of_row (r := (6, .iconst 1, 1)) DX7_stick_b0 4 rfl
theorem dX7_stick_7 : decode cX7_stick 7 = .ok (.isub, 1) := of_row (r := (7, .isub, 1)) DX7_stick_b0 5 rfl
theorem dX7_stick_8 : decode cX7_stick 8 = .ok (.invokestatic 132, 3) := of_row (r := (8, .invokestatic 132, 3)) DX7_stick_b0 6 rfl
theorem dX7_stick_11 : decode cX7_stick 11 = .ok (.ifCond .eq 12, 3) := of_row (r := (11, .ifCond .eq 12, 3)) DX7_stick_b0 7 rfl
theorem dX7_stick_14 : decode cX7_stick 14 = .ok (.iload_n 2, 1) := of_row (r := (14, .iload_n 2, 1)) DX7_stick_b0 8 rfl
theorem dX7_stick_15 : decode cX7_stick 15 = .ok (.iconst (-1), 1) := of_row (r := (15, .iconst (-1), 1)) DX7_stick_b0 9 rfl
theorem dX7_stick_16 : decode cX7_stick 16 = .ok (.iconst 5, 1) := of_row (r := (16, .iconst 5, 1)) DX7_stick_b0 10 rfl
theorem dX7_stick_17 : decode cX7_stick 17 = .ok (.invokestatic 132, 3) := of_row (r := (17, .invokestatic 132, 3)) DX7_stick_b0 11 rfl
theorem dX7_stick_20 : decode cX7_stick 20 = .ok (.ifCond .ne 7, 3) := of_row (r := (20, .ifCond .ne 7, 3)) DX7_stick_b0 12 rfl
theorem dX7_stick_23 : decode cX7_stick 23 = .ok (.iconst (-1), 1) := of_row (r := (23, .iconst (-1), 1)) DX7_stick_b0 13 rfl
theorem dX7_stick_24 : decode cX7_stick 24 = .ok (.goto 26, 3) := of_row (r := (24, .goto 26, 3)) DX7_stick_b0 14 rfl
theorem dX7_stick_27 : decode cX7_stick 27 = .ok (.iload_n 2, 1) := of_row (r := (27, .iload_n 2, 1)) DX7_stick_b0 15 rfl
theorem dX7_stick_28 : decode cX7_stick 28 = .ok (.ifCond .ge 12, 3) := of_row (r := (28, .ifCond .ge 12, 3)) DX7_stick_b0 16 rfl
theorem dX7_stick_31 : decode cX7_stick 31 = .ok (.aload_n 0, 1) := of_row (r := (31, .aload_n 0, 1)) DX7_stick_b0 17 rfl
theorem dX7_stick_32 : decode cX7_stick 32 = .ok (.getfield 112, 3) := of_row (r := (32, .getfield 112, 3)) DX7_stick_b0 18 rfl
theorem dX7_stick_35 : decode cX7_stick 35 = .ok (.iload_n 1, 1) := of_row (r := (35, .iload_n 1, 1)) DX7_stick_b0 19 rfl
theorem dX7_stick_36 : decode cX7_stick 36 = .ok (.iaload, 1) := of_row (r := (36, .iaload, 1)) DX7_stick_b0 20 rfl
theorem dX7_stick_37 : decode cX7_stick 37 = .ok (.goto 13, 3) := of_row (r := (37, .goto 13, 3)) DX7_stick_b0 21 rfl
theorem dX7_stick_40 : decode cX7_stick 40 = .ok (.aload_n 0, 1) := of_row (r := (40, .aload_n 0, 1)) DX7_stick_b0 22 rfl
theorem dX7_stick_41 : decode cX7_stick 41 = .ok (.getfield 112, 3) := of_row (r := (41, .getfield 112, 3)) DX7_stick_b0 23 rfl
theorem dX7_stick_44 : decode cX7_stick 44 = .ok (.iload_n 1, 1) := of_row (r := (44, .iload_n 1, 1)) DX7_stick_b0 24 rfl
theorem dX7_stick_45 : decode cX7_stick 45 = .ok (.iaload, 1) := of_row (r := (45, .iaload, 1)) DX7_stick_b0 25 rfl
theorem dX7_stick_46 : decode cX7_stick 46 = .ok (.iload_n 2, 1) := of_row (r := (46, .iload_n 2, 1)) DX7_stick_b0 26 rfl
theorem dX7_stick_47 : decode cX7_stick 47 = .ok (.invokestatic 344, 3) := of_row (r := (47, .invokestatic 344, 3)) DX7_stick_b0 27 rfl
theorem dX7_stick_50 : decode cX7_stick 50 = .ok (.ireturn, 1) := of_row (r := (50, .ireturn, 1)) DX7_stick_b0 28 rfl
set_option maxRecDepth 20000 in
theorem DX7_fits_b0 : ([(0, .iload_n 1, 1), (1, .iconst 0, 1), (2, .aload_n 0, 1), (3, .getfield 322, 3), (6, .iconst 1, 1), (7, .isub, 1), (8, .invokestatic 132, 3), (11, .ifCond .eq 14, 3), (14, .iload_n 2, 1), (15, .iconst 0, 1), (16, .ldc_w 311, 3), (19, .invokestatic 132, 3), (22, .ifCond .ne 5, 3), (25, .iconst (-1), 1), (26, .ireturn, 1), (27, .iconst 0, 1), (28, .istore_n 3, 1), (29, .iload_n 3, 1), (30, .bipush 6, 2), (32, .if_icmp .ge 29, 3), (35, .aload_n 0, 1), (36, .getfield 112, 3), (39, .iload_n 1, 1), (40, .iaload, 1), (41, .iload_n 3, 1), (42, .invokestatic 344, 3), (45, .iload_n 2, 1), (46, .iload_n 3, 1), (47, .invokestatic 344, 3), (50, .if_icmp .eq 5, 3), (53, .iload_n 3, 1), (54, .ireturn, 1), (55, .iinc 3 1, 3), (58, .goto (-29), 3), (61, .bipush 6, 2), (63, .ireturn, 1)] : List (Nat × Instr × Nat)).all (fun r => decide (decode cX7_fits r.1 = .ok r.2)) = true := by decide +kernel
theorem dX7_fits_0 : decode cX7_fits 0 = .ok (.iload_n 1, 1) := of_row (r := (0, .iload_n 1, 1)) DX7_fits_b0 0 rfl
theorem dX7_fits_1 : decode cX7_fits 1 = .ok (.iconst 0, 1) := of_row (r := (1, .iconst 0, 1)) DX7_fits_b0 1 rfl
theorem dX7_fits_2 : decode cX7_fits 2 = .ok (.aload_n 0, 1) := of_row (r := (2, .aload_n 0, 1)) DX7_fits_b0 2 rfl
theorem dX7_fits_3 : decode cX7_fits 3 = .ok (.getfield 322, 3) := of_row (r := (3, .getfield 322, 3)) DX7_fits_b0 3 rfl
theorem dX7_fits_6 : decode cX7_fits 6 = .ok (.iconst 1, 1) := of_row (r := (6, .iconst 1, 1)) DX7_fits_b0 4 rfl
theorem dX7_fits_7 : decode cX7_fits 7 = .ok (.isub, 1) := of_row (r := (7, .isub, 1)) DX7_fits_b0 5 rfl
theorem dX7_fits_8 : decode cX7_fits 8 = .ok (.invokestatic 132, 3) := of_row (r := (8, .invokestatic 132, 3)) DX7_fits_b0 6 rfl
theorem dX7_fits_11 : decode cX7_fits 11 = .ok (.ifCond .eq 14, 3) := of_row (r := (11, .ifCond .eq 14, 3)) DX7_fits_b0 7 rfl
theorem dX7_fits_14 : decode cX7_fits 14 = .ok (.iload_n 2, 1) := of_row (r := (14, .iload_n 2, 1)) DX7_fits_b0 8 rfl
theorem dX7_fits_15 : decode cX7_fits 15 = .ok (.iconst 0, 1) := of_row (r := (15, .iconst 0, 1)) DX7_fits_b0 9 rfl
theorem dX7_fits_16 : decode cX7_fits 16 = .ok (.ldc_w 311, 3) := of_row (r := (16, .ldc_w 311, 3)) DX7_fits_b0 10 rfl
theorem dX7_fits_19 : decode cX7_fits 19 = .ok (.invokestatic 132, 3) := of_row (r := (19, .invokestatic 132, 3)) DX7_fits_b0 11 rfl
theorem dX7_fits_22 : decode cX7_fits 22 = .ok (.ifCond .ne 5, 3) := of_row (r := (22, .ifCond .ne 5, 3)) DX7_fits_b0 12 rfl
theorem dX7_fits_25 : decode cX7_fits 25 = .ok (.iconst (-1), 1) := of_row (r := (25, .iconst (-1), 1)) DX7_fits_b0 13 rfl
theorem dX7_fits_26 : decode cX7_fits 26 = .ok (.ireturn, 1) := of_row (r := (26, .ireturn, 1)) DX7_fits_b0 14 rfl
theorem dX7_fits_27 : decode cX7_fits 27 = .ok (.iconst 0, 1) := of_row (r := (27, .iconst 0, 1)) DX7_fits_b0 15 rfl
theorem dX7_fits_28 : decode cX7_fits 28 = .ok (.istore_n 3, 1) := of_row (r := (28, .istore_n 3, 1)) DX7_fits_b0 16 rfl
theorem dX7_fits_29 : decode cX7_fits 29 = .ok (.iload_n 3, 1) := of_row (r := (29, .iload_n 3, 1)) DX7_fits_b0 17 rfl
theorem dX7_fits_30 : decode cX7_fits 30 = .ok (.bipush 6, 2) := of_row (r := (30, .bipush 6, 2)) DX7_fits_b0 18 rfl
theorem dX7_fits_32 : decode cX7_fits 32 = .ok (.if_icmp .ge 29, 3) := of_row (r := (32, .if_icmp .ge 29, 3)) DX7_fits_b0 19 rfl
theorem dX7_fits_35 : decode cX7_fits 35 = .ok (.aload_n 0, 1) := of_row (r := (35, .aload_n 0, 1)) DX7_fits_b0 20 rfl
theorem dX7_fits_36 : decode cX7_fits 36 = .ok (.getfield 112, 3) := of_row (r := (36, .getfield 112, 3)) DX7_fits_b0 21 rfl
theorem dX7_fits_39 : decode cX7_fits 39 = .ok (.iload_n 1, 1) := of_row (r := (39, .iload_n 1, 1)) DX7_fits_b0 22 rfl
theorem dX7_fits_40 : decode cX7_fits 40 = .ok (.iaload, 1) := of_row (r := (40, .iaload, 1)) DX7_fits_b0 23 rfl
theorem dX7_fits_41 : decode cX7_fits 41 = .ok (.iload_n 3, 1) := of_row (r := (41, .iload_n 3, 1)) DX7_fits_b0 24 rfl
theorem dX7_fits_42 : decode cX7_fits 42 = .ok (.invokestatic 344, 3) := of_row (r := (42, .invokestatic 344, 3)) DX7_fits_b0 25 rfl
theorem dX7_fits_45 : decode cX7_fits 45 = .ok (.iload_n 2, 1) := of_row (r := (45, .iload_n 2, 1)) DX7_fits_b0 26 rfl
theorem dX7_fits_46 : decode cX7_fits 46 = .ok (.iload_n 3, 1) := of_row (r := (46, .iload_n 3, 1)) DX7_fits_b0 27 rfl
theorem dX7_fits_47 : decode cX7_fits 47 = .ok (.invokestatic 344, 3) := of_row (r := (47, .invokestatic 344, 3)) DX7_fits_b0 28 rfl
theorem dX7_fits_50 : decode cX7_fits 50 = .ok (.if_icmp .eq 5, 3) := of_row (r := (50, .if_icmp .eq 5, 3)) DX7_fits_b0 29 rfl
theorem dX7_fits_53 : decode cX7_fits 53 = .ok (.iload_n 3, 1) := of_row (r := (53, .iload_n 3, 1)) DX7_fits_b0 30 rfl
theorem dX7_fits_54 : decode cX7_fits 54 = .ok (.ireturn, 1) := of_row (r := (54, .ireturn, 1)) DX7_fits_b0 31 rfl
theorem dX7_fits_55 : decode cX7_fits 55 = .ok (.iinc 3 1, 3) := of_row (r := (55, .iinc 3 1, 3)) DX7_fits_b0 32 rfl
theorem dX7_fits_58 : decode cX7_fits 58 = .ok (.goto (-29), 3) := of_row (r := (58, .goto (-29), 3)) DX7_fits_b0 33 rfl
theorem dX7_fits_61 : decode cX7_fits 61 = .ok (.bipush 6, 2) := of_row (r := (61, .bipush 6, 2)) DX7_fits_b0 34 rfl
theorem dX7_fits_63 : decode cX7_fits 63 = .ok (.ireturn, 1) := of_row (r := (63, .ireturn, 1)) DX7_fits_b0 35 rfl
set_option maxRecDepth 20000 in
theorem DX7_next_b0 : ([(0, .iload_n 0, 1), (1, .iconst 1, 1), (2, .iadd, 1), (3, .invokestatic 341, 3), (6, .iload_n 0, 1), (7, .invokestatic 341, 3), (10, .idiv, 1), (11, .ireturn, 1)] : List (Nat × Instr × Nat)).all (fun r => decide (decode cX7_next r.1 = .ok r.2)) = true := by decide +kernel
theorem dX7_next_0 : decode cX7_next 0 = .ok (.iload_n 0, 1) := of_row (r := (0, .iload_n 0, 1)) DX7_next_b0 0 rfl
theorem dX7_next_1 : decode cX7_next 1 = .ok (.iconst 1, 1) := of_row (r := (1, .iconst 1, 1)) DX7_next_b0 1 rfl
theorem dX7_next_2 : decode cX7_next 2 = .ok (.iadd, 1) := of_row (r := (2, .iadd, 1)) DX7_next_b0 2 rfl
theorem dX7_next_3 : decode cX7_next 3 = .ok (.invokestatic 341, 3) := of_row (r := (3, .invokestatic 341, 3)) DX7_next_b0 3 rfl
theorem dX7_next_6 : decode cX7_next 6 = .ok (.iload_n 0, 1) := of_row (r := (6, .iload_n 0, 1)) DX7_next_b0 4 rfl
theorem dX7_next_7 : decode cX7_next 7 = .ok (.invokestatic 341, 3) := of_row (r := (7, .invokestatic 341, 3)) DX7_next_b0 5 rfl
theorem dX7_next_10 : decode cX7_next 10 = .ok (.idiv, 1) := of_row (r := (10, .idiv, 1)) DX7_next_b0 6 rfl
theorem dX7_next_11 : decode cX7_next 11 = .ok (.ireturn, 1) := of_row (r := (11, .ireturn, 1)) DX7_next_b0 7 rfl
set_option maxRecDepth 20000 in
theorem DX7_lies_b0 : ([(0, .lconst 0, 1), (1, .lstore_n 1, 1), (2, .iconst 0, 1), (3, .istore_n 3, 1), (4, .iload_n 3, 1), (5, .bipush 6, 2), (7, .if_icmp .ge 25, 3), (10, .lload_n 1, 1), (11, .aload_n 0, 1), (12, .getfield 118, 3), (15, .iload_n 3, 1), (16, .iaload, 1), (17, .i2l, 1), (18, .iload_n 3, 1), (19, .invokestatic 341, 3), (22, .i2l, 1), (23, .lmul, 1), (24, .ladd, 1), (25, .lstore_n 1, 1), (26, .iinc 3 1, 3), (29, .goto (-25), 3), (32, .lload_n 1, 1), (33, .lreturn, 1)] : List (Nat × Instr × Nat)).all (fun r => decide (decode cX7_lies r.1 = .ok r.2)) = true := by decide +kernel
theorem dX7_lies_0 : decode cX7_lies 0 = .ok (.lconst 0, 1) := of_row (r := (0, .lconst 0, 1)) DX7_lies_b0 0 rfl
theorem dX7_lies_1 : decode cX7_lies 1 = .ok (.lstore_n 1, 1) := of_row (r := (1, .lstore_n 1, 1)) DX7_lies_b0 1 rfl
theorem dX7_lies_2 : decode cX7_lies 2 = .ok (.iconst 0, 1) := of_row (r := (2, .iconst 0, 1)) DX7_lies_b0 2 rfl
theorem dX7_lies_3 : decode cX7_lies 3 = .ok (.istore_n 3, 1) := of_row (r := (3, .istore_n 3, 1)) DX7_lies_b0 3 rfl
theorem dX7_lies_4 : decode cX7_lies 4 = .ok (.iload_n 3, 1) := of_row (r := (4, .iload_n 3, 1)) DX7_lies_b0 4 rfl
theorem dX7_lies_5 : decode cX7_lies 5 = .ok (.bipush 6, 2) := of_row (r := (5, .bipush 6, 2)) DX7_lies_b0 5 rfl
theorem dX7_lies_7 : decode cX7_lies 7 = .ok (.if_icmp .ge 25, 3) := of_row (r := (7, .if_icmp .ge 25, 3)) DX7_lies_b0 6 rfl
theorem dX7_lies_10 : decode cX7_lies 10 = .ok (.lload_n 1, 1) := of_row (r := (10, .lload_n 1, 1)) DX7_lies_b0 7 rfl
theorem dX7_lies_11 : decode cX7_lies 11 = .ok (.aload_n 0, 1) := of_row (r := (11, .aload_n 0, 1)) DX7_lies_b0 8 rfl
theorem dX7_lies_12 : decode cX7_lies 12 = .ok (.getfield 118, 3) := of_row (r := (12, .getfield 118, 3)) DX7_lies_b0 9 rfl
theorem dX7_lies_15 : decode cX7_lies 15 = .ok (.iload_n 3, 1) := of_row (r := (15, .iload_n 3, 1)) DX7_lies_b0 10 rfl
theorem dX7_lies_16 : decode cX7_lies 16 = .ok (.iaload, 1) := of_row (r := (16, .iaload, 1)) DX7_lies_b0 11 rfl
theorem dX7_lies_17 : decode cX7_lies 17 = .ok (.i2l, 1) := of_row (r := (17, .i2l, 1)) DX7_lies_b0 12 rfl
theorem dX7_lies_18 : decode cX7_lies 18 = .ok (.iload_n 3, 1) := of_row (r := (18, .iload_n 3, 1)) DX7_lies_b0 13 rfl
theorem dX7_lies_19 : decode cX7_lies 19 = .ok (.invokestatic 341, 3) := of_row (r := (19, .invokestatic 341, 3)) DX7_lies_b0 14 rfl
theorem dX7_lies_22 : decode cX7_lies 22 = .ok (.i2l, 1) := of_row (r := (22, .i2l, 1)) DX7_lies_b0 15 rfl
theorem dX7_lies_23 : decode cX7_lies 23 = .ok (.lmul, 1) := of_row (r := (23, .lmul, 1)) DX7_lies_b0 16 rfl
theorem dX7_lies_24 : decode cX7_lies 24 = .ok (.ladd, 1) := of_row (r := (24, .ladd, 1)) DX7_lies_b0 17 rfl
theorem dX7_lies_25 : decode cX7_lies 25 = .ok (.lstore_n 1, 1) := of_row (r := (25, .lstore_n 1, 1)) DX7_lies_b0 18 rfl
theorem dX7_lies_26 : decode cX7_lies 26 = .ok (.iinc 3 1, 3) := of_row (r := (26, .iinc 3 1, 3)) DX7_lies_b0 19 rfl
theorem dX7_lies_29 : decode cX7_lies 29 = .ok (.goto (-25), 3) := of_row (r := (29, .goto (-25), 3)) DX7_lies_b0 20 rfl
theorem dX7_lies_32 : decode cX7_lies 32 = .ok (.lload_n 1, 1) := of_row (r := (32, .lload_n 1, 1)) DX7_lies_b0 21 rfl
theorem dX7_lies_33 : decode cX7_lies 33 = .ok (.lreturn, 1) := of_row (r := (33, .lreturn, 1)) DX7_lies_b0 22 rfl
set_option maxRecDepth 20000 in
theorem DX7_lay_b0 : ([(0, .iload_n 1, 1), (1, .iconst 1, 1), (2, .ldc_w 284, 3), (5, .invokestatic 132, 3), (8, .ifCond .ne 5, 3), (11, .iconst (-1), 1), (12, .ireturn, 1), (13, .iconst 0, 1), (14, .istore_n 2, 1), (15, .iload_n 2, 1), (16, .bipush 6, 2), (18, .if_icmp .ge 23, 3), (21, .aload_n 0, 1), (22, .getfield 118, 3), (25, .iload_n 2, 1), (26, .dup2, 1), (27, .iaload, 1), (28, .iload_n 1, 1), (29, .iload_n 2, 1), (30, .invokestatic 344, 3), (33, .iadd, 1), (34, .iastore, 1), (35, .iinc 2 1, 3), (38, .goto (-23), 3), (41, .iconst 0, 1), (42, .istore_n 2, 1), (43, .iconst 0, 1), (44, .istore_n 3, 1), (45, .iload_n 3, 1), (46, .iconst 5, 1), (47, .if_icmp .ge 55, 3), (50, .aload_n 0, 1), (51, .getfield 118, 3), (54, .iload_n 3, 1), (55, .iaload, 1), (56, .iload_n 3, 1), (57, .invokestatic 348, 3), (60, .if_icmp .ge 9, 3), (63, .iinc 3 1, 3), (66, .goto (-21), 3), (69, .aload_n 0, 1), (70, .getfield 118, 3), (73, .iload_n 3, 1), (74, .dup2, 1), (75, .iaload, 1), (76, .iload_n 3, 1), (77, .invokestatic 348, 3), (80, .isub, 1), (81, .iastore, 1), (82, .aload_n 0, 1), (83, .getfield 118, 3), (86, .iload_n 3, 1), (87, .iconst 1, 1), (88, .iadd, 1), (89, .dup2, 1), (90, .iaload, 1), (91, .iconst 1, 1), (92, .iadd, 1), (93, .iastore, 1), (94, .iinc 2 1, 3)] : List (Nat × Instr × Nat)).all (fun r => decide (decode cX7_lay r.1 = .ok r.2)) = true := by decide +kernel
theorem dX7_lay_0 : decode cX7_lay 0 = .ok (.iload_n 1, 1) := of_row (r := (0, .iload_n 1, 1)) DX7_lay_b0 0 rfl
theorem dX7_lay_1 : decode cX7_lay 1 = .ok (.iconst 1, 1) := of_row (r := (1, .iconst 1, 1)) DX7_lay_b0 1 rfl
theorem dX7_lay_2 : decode cX7_lay 2 = .ok (.ldc_w 284, 3) := of_row (r := (2, .ldc_w 284, 3)) DX7_lay_b0 2 rfl
theorem dX7_lay_5 : decode cX7_lay 5 = .ok (.invokestatic 132, 3) := of_row (r := (5, .invokestatic 132, 3)) DX7_lay_b0 3 rfl
theorem dX7_lay_8 : decode cX7_lay 8 = .ok (.ifCond .ne 5, 3) := of_row (r := (8, .ifCond .ne 5, 3)) DX7_lay_b0 4 rfl
theorem dX7_lay_11 : decode cX7_lay 11 = .ok (.iconst (-1), 1) := of_row (r := (11, .iconst (-1), 1)) DX7_lay_b0 5 rfl
theorem dX7_lay_12 : decode cX7_lay 12 = .ok (.ireturn, 1) := of_row (r := (12, .ireturn, 1)) DX7_lay_b0 6 rfl
theorem dX7_lay_13 : decode cX7_lay 13 = .ok (.iconst 0, 1) := of_row (r := (13, .iconst 0, 1)) DX7_lay_b0 7 rfl
theorem dX7_lay_14 : decode cX7_lay 14 = .ok (.istore_n 2, 1) := of_row (r := (14, .istore_n 2, 1)) DX7_lay_b0 8 rfl
theorem dX7_lay_15 : decode cX7_lay 15 = .ok (.iload_n 2, 1) := of_row (r := (15, .iload_n 2, 1)) DX7_lay_b0 9 rfl
theorem dX7_lay_16 : decode cX7_lay 16 = .ok (.bipush 6, 2) := of_row (r := (16, .bipush 6, 2)) DX7_lay_b0 10 rfl
theorem dX7_lay_18 : decode cX7_lay 18 = .ok (.if_icmp .ge 23, 3) := of_row (r := (18, .if_icmp .ge 23, 3)) DX7_lay_b0 11 rfl
theorem dX7_lay_21 : decode cX7_lay 21 = .ok (.aload_n 0, 1) := of_row (r := (21, .aload_n 0, 1)) DX7_lay_b0 12 rfl
theorem dX7_lay_22 : decode cX7_lay 22 = .ok (.getfield 118, 3) := of_row (r := (22, .getfield 118, 3)) DX7_lay_b0 13 rfl
theorem dX7_lay_25 : decode cX7_lay 25 = .ok (.iload_n 2, 1) := of_row (r := (25, .iload_n 2, 1)) DX7_lay_b0 14 rfl
theorem dX7_lay_26 : decode cX7_lay 26 = .ok (.dup2, 1) := of_row (r := (26, .dup2, 1)) DX7_lay_b0 15 rfl
theorem dX7_lay_27 : decode cX7_lay 27 = .ok (.iaload, 1) := of_row (r := (27, .iaload, 1)) DX7_lay_b0 16 rfl
theorem dX7_lay_28 : decode cX7_lay 28 = .ok (.iload_n 1, 1) := of_row (r := (28, .iload_n 1, 1)) DX7_lay_b0 17 rfl
theorem dX7_lay_29 : decode cX7_lay 29 = .ok (.iload_n 2, 1) := of_row (r := (29, .iload_n 2, 1)) DX7_lay_b0 18 rfl
theorem dX7_lay_30 : decode cX7_lay 30 = .ok (.invokestatic 344, 3) := of_row (r := (30, .invokestatic 344, 3)) DX7_lay_b0 19 rfl
theorem dX7_lay_33 : decode cX7_lay 33 = .ok (.iadd, 1) := of_row (r := (33, .iadd, 1)) DX7_lay_b0 20 rfl
theorem dX7_lay_34 : decode cX7_lay 34 = .ok (.iastore, 1) := of_row (r := (34, .iastore, 1)) DX7_lay_b0 21 rfl
theorem dX7_lay_35 : decode cX7_lay 35 = .ok (.iinc 2 1, 3) := of_row (r := (35, .iinc 2 1, 3)) DX7_lay_b0 22 rfl
theorem dX7_lay_38 : decode cX7_lay 38 = .ok (.goto (-23), 3) := of_row (r := (38, .goto (-23), 3)) DX7_lay_b0 23 rfl
theorem dX7_lay_41 : decode cX7_lay 41 = .ok (.iconst 0, 1) := of_row (r := (41, .iconst 0, 1)) DX7_lay_b0 24 rfl
theorem dX7_lay_42 : decode cX7_lay 42 = .ok (.istore_n 2, 1) := of_row (r := (42, .istore_n 2, 1)) DX7_lay_b0 25 rfl
theorem dX7_lay_43 : decode cX7_lay 43 = .ok (.iconst 0, 1) := of_row (r := (43, .iconst 0, 1)) DX7_lay_b0 26 rfl
theorem dX7_lay_44 : decode cX7_lay 44 = .ok (.istore_n 3, 1) := of_row (r := (44, .istore_n 3, 1)) DX7_lay_b0 27 rfl
theorem dX7_lay_45 : decode cX7_lay 45 = .ok (.iload_n 3, 1) := of_row (r := (45, .iload_n 3, 1)) DX7_lay_b0 28 rfl
theorem dX7_lay_46 : decode cX7_lay 46 = .ok (.iconst 5, 1) := of_row (r := (46, .iconst 5, 1)) DX7_lay_b0 29 rfl
theorem dX7_lay_47 : decode cX7_lay 47 = .ok (.if_icmp .ge 55, 3) := of_row (r := (47, .if_icmp .ge 55, 3)) DX7_lay_b0 30 rfl
theorem dX7_lay_50 : decode cX7_lay 50 = .ok (.aload_n 0, 1) := of_row (r := (50, .aload_n 0, 1)) DX7_lay_b0 31 rfl
theorem dX7_lay_51 : decode cX7_lay 51 = .ok (.getfield 118, 3) := of_row (r := (51, .getfield 118, 3)) DX7_lay_b0 32 rfl
theorem dX7_lay_54 : decode cX7_lay 54 = .ok (.iload_n 3, 1) := of_row (r := (54, .iload_n 3, 1)) DX7_lay_b0 33 rfl
theorem dX7_lay_55 : decode cX7_lay 55 = .ok (.iaload, 1) := of_row (r := (55, .iaload, 1)) DX7_lay_b0 34 rfl
theorem dX7_lay_56 : decode cX7_lay 56 = .ok (.iload_n 3, 1) := of_row (r := (56, .iload_n 3, 1)) DX7_lay_b0 35 rfl
theorem dX7_lay_57 : decode cX7_lay 57 = .ok (.invokestatic 348, 3) := of_row (r := (57, .invokestatic 348, 3)) DX7_lay_b0 36 rfl
theorem dX7_lay_60 : decode cX7_lay 60 = .ok (.if_icmp .ge 9, 3) := of_row (r := (60, .if_icmp .ge 9, 3)) DX7_lay_b0 37 rfl
theorem dX7_lay_63 : decode cX7_lay 63 = .ok (.iinc 3 1, 3) := of_row (r := (63, .iinc 3 1, 3)) DX7_lay_b0 38 rfl
theorem dX7_lay_66 : decode cX7_lay 66 = .ok (.goto (-21), 3) := of_row (r := (66, .goto (-21), 3)) DX7_lay_b0 39 rfl
theorem dX7_lay_69 : decode cX7_lay 69 = .ok (.aload_n 0, 1) := of_row (r := (69, .aload_n 0, 1)) DX7_lay_b0 40 rfl
theorem dX7_lay_70 : decode cX7_lay 70 = .ok (.getfield 118, 3) := of_row (r := (70, .getfield 118, 3)) DX7_lay_b0 41 rfl
theorem dX7_lay_73 : decode cX7_lay 73 = .ok (.iload_n 3, 1) := of_row (r := (73, .iload_n 3, 1)) DX7_lay_b0 42 rfl
theorem dX7_lay_74 : decode cX7_lay 74 = .ok (.dup2, 1) := of_row (r := (74, .dup2, 1)) DX7_lay_b0 43 rfl
theorem dX7_lay_75 : decode cX7_lay 75 = .ok (.iaload, 1) := of_row (r := (75, .iaload, 1)) DX7_lay_b0 44 rfl
theorem dX7_lay_76 : decode cX7_lay 76 = .ok (.iload_n 3, 1) := of_row (r := (76, .iload_n 3, 1)) DX7_lay_b0 45 rfl
theorem dX7_lay_77 : decode cX7_lay 77 = .ok (.invokestatic 348, 3) := of_row (r := (77, .invokestatic 348, 3)) DX7_lay_b0 46 rfl
theorem dX7_lay_80 : decode cX7_lay 80 = .ok (.isub, 1) := of_row (r := (80, .isub, 1)) DX7_lay_b0 47 rfl
theorem dX7_lay_81 : decode cX7_lay 81 = .ok (.iastore, 1) := of_row (r := (81, .iastore, 1)) DX7_lay_b0 48 rfl
theorem dX7_lay_82 : decode cX7_lay 82 = .ok (.aload_n 0, 1) := of_row (r := (82, .aload_n 0, 1)) DX7_lay_b0 49 rfl
theorem dX7_lay_83 : decode cX7_lay 83 = .ok (.getfield 118, 3) := of_row (r := (83, .getfield 118, 3)) DX7_lay_b0 50 rfl
theorem dX7_lay_86 : decode cX7_lay 86 = .ok (.iload_n 3, 1) := of_row (r := (86, .iload_n 3, 1)) DX7_lay_b0 51 rfl
theorem dX7_lay_87 : decode cX7_lay 87 = .ok (.iconst 1, 1) := of_row (r := (87, .iconst 1, 1)) DX7_lay_b0 52 rfl
theorem dX7_lay_88 : decode cX7_lay 88 = .ok (.iadd, 1) := of_row (r := (88, .iadd, 1)) DX7_lay_b0 53 rfl
theorem dX7_lay_89 : decode cX7_lay 89 = .ok (.dup2, 1) := of_row (r := (89, .dup2, 1)) DX7_lay_b0 54 rfl
theorem dX7_lay_90 : decode cX7_lay 90 = .ok (.iaload, 1) := of_row (r := (90, .iaload, 1)) DX7_lay_b0 55 rfl
theorem dX7_lay_91 : decode cX7_lay 91 = .ok (.iconst 1, 1) := of_row (r := (91, .iconst 1, 1)) DX7_lay_b0 56 rfl
theorem dX7_lay_92 : decode cX7_lay 92 = .ok (.iadd, 1) := of_row (r := (92, .iadd, 1)) DX7_lay_b0 57 rfl
theorem dX7_lay_93 : decode cX7_lay 93 = .ok (.iastore, 1) := of_row (r := (93, .iastore, 1)) DX7_lay_b0 58 rfl
theorem dX7_lay_94 : decode cX7_lay 94 = .ok (.iinc 2 1, 3) := of_row (r := (94, .iinc 2 1, 3)) DX7_lay_b0 59 rfl
set_option maxRecDepth 20000 in
theorem DX7_lay_b1 : ([(97, .iconst 0, 1), (98, .istore_n 3, 1), (99, .goto (-54), 3), (102, .iload_n 2, 1), (103, .ireturn, 1)] : List (Nat × Instr × Nat)).all (fun r => decide (decode cX7_lay r.1 = .ok r.2)) = true := by decide +kernel
theorem dX7_lay_97 : decode cX7_lay 97 = .ok (.iconst 0, 1) := of_row (r := (97, .iconst 0, 1)) DX7_lay_b1 0 rfl
theorem dX7_lay_98 : decode cX7_lay 98 = .ok (.istore_n 3, 1) := of_row (r := (98, .istore_n 3, 1)) DX7_lay_b1 1 rfl
theorem dX7_lay_99 : decode cX7_lay 99 = .ok (.goto (-54), 3) := of_row (r := (99, .goto (-54), 3)) DX7_lay_b1 2 rfl
theorem dX7_lay_102 : decode cX7_lay 102 = .ok (.iload_n 2, 1) := of_row (r := (102, .iload_n 2, 1)) DX7_lay_b1 3 rfl
theorem dX7_lay_103 : decode cX7_lay 103 = .ok (.ireturn, 1) := of_row (r := (103, .ireturn, 1)) DX7_lay_b1 4 rfl
set_option maxRecDepth 20000 in
theorem DX7_take_b0 : ([(0, .iload_n 1, 1), (1, .iconst 1, 1), (2, .ldc_w 284, 3), (5, .invokestatic 132, 3), (8, .ifCond .ne 5, 3), (11, .iconst (-1), 1), (12, .ireturn, 1), (13, .iload_n 1, 1), (14, .i2l, 1), (15, .aload_n 0, 1), (16, .invokevirtual 351, 3), (19, .lcmp, 1), (20, .ifCond .le 6, 3), (23, .bipush (-2), 2), (25, .ireturn, 1), (26, .iconst 0, 1), (27, .istore_n 2, 1), (28, .iconst 0, 1), (29, .istore_n 3, 1), (30, .iload_n 3, 1), (31, .bipush 6, 2), (33, .if_icmp .ge 103, 3), (36, .iload_n 1, 1), (37, .iload_n 3, 1), (38, .invokestatic 344, 3), (41, .istore 4, 2), (43, .aload_n 0, 1), (44, .getfield 118, 3), (47, .iload_n 3, 1), (48, .iaload, 1), (49, .iload 4, 2), (51, .if_icmp .ge 68, 3), (54, .iload_n 3, 1), (55, .iconst 1, 1), (56, .iadd, 1), (57, .istore 5, 2), (59, .aload_n 0, 1), (60, .getfield 118, 3), (63, .iload 5, 2), (65, .iaload, 1), (66, .ifCond .ne 9, 3), (69, .iinc 5 1, 3), (72, .goto (-13), 3), (75, .iload 5, 2), (77, .iload_n 3, 1), (78, .if_icmp .le 38, 3), (81, .aload_n 0, 1), (82, .getfield 118, 3), (85, .iload 5, 2), (87, .dup2, 1), (88, .iaload, 1), (89, .iconst 1, 1), (90, .isub, 1), (91, .iastore, 1), (92, .iinc 5 (-1), 3), (95, .aload_n 0, 1), (96, .getfield 118, 3), (99, .iload 5, 2), (101, .dup2, 1), (102, .iaload, 1)] : List (Nat × Instr × Nat)).all (fun r => decide (decode cX7_take r.1 = .ok r.2)) = true := by decide +kernel
theorem dX7_take_0 : decode cX7_take 0 = .ok (.iload_n 1, 1) := of_row (r := (0, .iload_n 1, 1)) DX7_take_b0 0 rfl
theorem dX7_take_1 : decode cX7_take 1 = .ok (.iconst 1, 1) := of_row (r := (1, .iconst 1, 1)) DX7_take_b0 1 rfl
theorem dX7_take_2 : decode cX7_take 2 = .ok (.ldc_w 284, 3) := of_row (r := (2, .ldc_w 284, 3)) DX7_take_b0 2 rfl
theorem dX7_take_5 : decode cX7_take 5 = .ok (.invokestatic 132, 3) := of_row (r := (5, .invokestatic 132, 3)) DX7_take_b0 3 rfl
theorem dX7_take_8 : decode cX7_take 8 = .ok (.ifCond .ne 5, 3) := of_row (r := (8, .ifCond .ne 5, 3)) DX7_take_b0 4 rfl
theorem dX7_take_11 : decode cX7_take 11 = .ok (.iconst (-1), 1) := of_row (r := (11, .iconst (-1), 1)) DX7_take_b0 5 rfl
theorem dX7_take_12 : decode cX7_take 12 = .ok (.ireturn, 1) := of_row (r := (12, .ireturn, 1)) DX7_take_b0 6 rfl
theorem dX7_take_13 : decode cX7_take 13 = .ok (.iload_n 1, 1) := of_row (r := (13, .iload_n 1, 1)) DX7_take_b0 7 rfl
theorem dX7_take_14 : decode cX7_take 14 = .ok (.i2l, 1) := of_row (r := (14, .i2l, 1)) DX7_take_b0 8 rfl
theorem dX7_take_15 : decode cX7_take 15 = .ok (.aload_n 0, 1) := of_row (r := (15, .aload_n 0, 1)) DX7_take_b0 9 rfl
theorem dX7_take_16 : decode cX7_take 16 = .ok (.invokevirtual 351, 3) := of_row (r := (16, .invokevirtual 351, 3)) DX7_take_b0 10 rfl
theorem dX7_take_19 : decode cX7_take 19 = .ok (.lcmp, 1) := of_row (r := (19, .lcmp, 1)) DX7_take_b0 11 rfl
theorem dX7_take_20 : decode cX7_take 20 = .ok (.ifCond .le 6, 3) := of_row (r := (20, .ifCond .le 6, 3)) DX7_take_b0 12 rfl
theorem dX7_take_23 : decode cX7_take 23 = .ok (.bipush (-2), 2) := of_row (r := (23, .bipush (-2), 2)) DX7_take_b0 13 rfl
theorem dX7_take_25 : decode cX7_take 25 = .ok (.ireturn, 1) := of_row (r := (25, .ireturn, 1)) DX7_take_b0 14 rfl
theorem dX7_take_26 : decode cX7_take 26 = .ok (.iconst 0, 1) := of_row (r := (26, .iconst 0, 1)) DX7_take_b0 15 rfl
theorem dX7_take_27 : decode cX7_take 27 = .ok (.istore_n 2, 1) := of_row (r := (27, .istore_n 2, 1)) DX7_take_b0 16 rfl
theorem dX7_take_28 : decode cX7_take 28 = .ok (.iconst 0, 1) := of_row (r := (28, .iconst 0, 1)) DX7_take_b0 17 rfl
theorem dX7_take_29 : decode cX7_take 29 = .ok (.istore_n 3, 1) := of_row (r := (29, .istore_n 3, 1)) DX7_take_b0 18 rfl
theorem dX7_take_30 : decode cX7_take 30 = .ok (.iload_n 3, 1) := of_row (r := (30, .iload_n 3, 1)) DX7_take_b0 19 rfl
theorem dX7_take_31 : decode cX7_take 31 = .ok (.bipush 6, 2) := of_row (r := (31, .bipush 6, 2)) DX7_take_b0 20 rfl
theorem dX7_take_33 : decode cX7_take 33 = .ok (.if_icmp .ge 103, 3) := of_row (r := (33, .if_icmp .ge 103, 3)) DX7_take_b0 21 rfl
theorem dX7_take_36 : decode cX7_take 36 = .ok (.iload_n 1, 1) := of_row (r := (36, .iload_n 1, 1)) DX7_take_b0 22 rfl
theorem dX7_take_37 : decode cX7_take 37 = .ok (.iload_n 3, 1) := of_row (r := (37, .iload_n 3, 1)) DX7_take_b0 23 rfl
theorem dX7_take_38 : decode cX7_take 38 = .ok (.invokestatic 344, 3) := of_row (r := (38, .invokestatic 344, 3)) DX7_take_b0 24 rfl
theorem dX7_take_41 : decode cX7_take 41 = .ok (.istore 4, 2) := of_row (r := (41, .istore 4, 2)) DX7_take_b0 25 rfl
theorem dX7_take_43 : decode cX7_take 43 = .ok (.aload_n 0, 1) := of_row (r := (43, .aload_n 0, 1)) DX7_take_b0 26 rfl
theorem dX7_take_44 : decode cX7_take 44 = .ok (.getfield 118, 3) := of_row (r := (44, .getfield 118, 3)) DX7_take_b0 27 rfl
theorem dX7_take_47 : decode cX7_take 47 = .ok (.iload_n 3, 1) := of_row (r := (47, .iload_n 3, 1)) DX7_take_b0 28 rfl
theorem dX7_take_48 : decode cX7_take 48 = .ok (.iaload, 1) := of_row (r := (48, .iaload, 1)) DX7_take_b0 29 rfl
theorem dX7_take_49 : decode cX7_take 49 = .ok (.iload 4, 2) := of_row (r := (49, .iload 4, 2)) DX7_take_b0 30 rfl
theorem dX7_take_51 : decode cX7_take 51 = .ok (.if_icmp .ge 68, 3) := of_row (r := (51, .if_icmp .ge 68, 3)) DX7_take_b0 31 rfl
theorem dX7_take_54 : decode cX7_take 54 = .ok (.iload_n 3, 1) := of_row (r := (54, .iload_n 3, 1)) DX7_take_b0 32 rfl
theorem dX7_take_55 : decode cX7_take 55 = .ok (.iconst 1, 1) := of_row (r := (55, .iconst 1, 1)) DX7_take_b0 33 rfl
theorem dX7_take_56 : decode cX7_take 56 = .ok (.iadd, 1) := of_row (r := (56, .iadd, 1)) DX7_take_b0 34 rfl
theorem dX7_take_57 : decode cX7_take 57 = .ok (.istore 5, 2) := of_row (r := (57, .istore 5, 2)) DX7_take_b0 35 rfl
theorem dX7_take_59 : decode cX7_take 59 = .ok (.aload_n 0, 1) := of_row (r := (59, .aload_n 0, 1)) DX7_take_b0 36 rfl
theorem dX7_take_60 : decode cX7_take 60 = .ok (.getfield 118, 3) := of_row (r := (60, .getfield 118, 3)) DX7_take_b0 37 rfl
theorem dX7_take_63 : decode cX7_take 63 = .ok (.iload 5, 2) := of_row (r := (63, .iload 5, 2)) DX7_take_b0 38 rfl
theorem dX7_take_65 : decode cX7_take 65 = .ok (.iaload, 1) := of_row (r := (65, .iaload, 1)) DX7_take_b0 39 rfl
theorem dX7_take_66 : decode cX7_take 66 = .ok (.ifCond .ne 9, 3) := of_row (r := (66, .ifCond .ne 9, 3)) DX7_take_b0 40 rfl
theorem dX7_take_69 : decode cX7_take 69 = .ok (.iinc 5 1, 3) := of_row (r := (69, .iinc 5 1, 3)) DX7_take_b0 41 rfl
theorem dX7_take_72 : decode cX7_take 72 = .ok (.goto (-13), 3) := of_row (r := (72, .goto (-13), 3)) DX7_take_b0 42 rfl
theorem dX7_take_75 : decode cX7_take 75 = .ok (.iload 5, 2) := of_row (r := (75, .iload 5, 2)) DX7_take_b0 43 rfl
theorem dX7_take_77 : decode cX7_take 77 = .ok (.iload_n 3, 1) := of_row (r := (77, .iload_n 3, 1)) DX7_take_b0 44 rfl
theorem dX7_take_78 : decode cX7_take 78 = .ok (.if_icmp .le 38, 3) := of_row (r := (78, .if_icmp .le 38, 3)) DX7_take_b0 45 rfl
theorem dX7_take_81 : decode cX7_take 81 = .ok (.aload_n 0, 1) := of_row (r := (81, .aload_n 0, 1)) DX7_take_b0 46 rfl
theorem dX7_take_82 : decode cX7_take 82 = .ok (.getfield 118, 3) := of_row (r := (82, .getfield 118, 3)) DX7_take_b0 47 rfl
theorem dX7_take_85 : decode cX7_take 85 = .ok (.iload 5, 2) := of_row (r := (85, .iload 5, 2)) DX7_take_b0 48 rfl
theorem dX7_take_87 : decode cX7_take 87 = .ok (.dup2, 1) := of_row (r := (87, .dup2, 1)) DX7_take_b0 49 rfl
theorem dX7_take_88 : decode cX7_take 88 = .ok (.iaload, 1) := of_row (r := (88, .iaload, 1)) DX7_take_b0 50 rfl
theorem dX7_take_89 : decode cX7_take 89 = .ok (.iconst 1, 1) := of_row (r := (89, .iconst 1, 1)) DX7_take_b0 51 rfl
theorem dX7_take_90 : decode cX7_take 90 = .ok (.isub, 1) := of_row (r := (90, .isub, 1)) DX7_take_b0 52 rfl
theorem dX7_take_91 : decode cX7_take 91 = .ok (.iastore, 1) := of_row (r := (91, .iastore, 1)) DX7_take_b0 53 rfl
theorem dX7_take_92 : decode cX7_take 92 = .ok (.iinc 5 (-1), 3) := of_row (r := (92, .iinc 5 (-1), 3)) DX7_take_b0 54 rfl
theorem dX7_take_95 : decode cX7_take 95 = .ok (.aload_n 0, 1) := of_row (r := (95, .aload_n 0, 1)) DX7_take_b0 55 rfl
theorem dX7_take_96 : decode cX7_take 96 = .ok (.getfield 118, 3) := of_row (r := (96, .getfield 118, 3)) DX7_take_b0 56 rfl
theorem dX7_take_99 : decode cX7_take 99 = .ok (.iload 5, 2) := of_row (r := (99, .iload 5, 2)) DX7_take_b0 57 rfl
theorem dX7_take_101 : decode cX7_take 101 = .ok (.dup2, 1) := of_row (r := (101, .dup2, 1)) DX7_take_b0 58 rfl
theorem dX7_take_102 : decode cX7_take 102 = .ok (.iaload, 1) := of_row (r := (102, .iaload, 1)) DX7_take_b0 59 rfl
set_option maxRecDepth 20000 in
theorem DX7_take_b1 : ([(103, .iload 5, 2), (105, .invokestatic 348, 3), (108, .iadd, 1), (109, .iastore, 1), (110, .iinc 2 1, 3), (113, .goto (-38), 3), (116, .goto (-73), 3), (119, .aload_n 0, 1), (120, .getfield 118, 3), (123, .iload_n 3, 1), (124, .dup2, 1), (125, .iaload, 1), (126, .iload 4, 2), (128, .isub, 1), (129, .iastore, 1), (130, .iinc 3 1, 3), (133, .goto (-103), 3), (136, .iload_n 2, 1), (137, .ireturn, 1)] : List (Nat × Instr × Nat)).all (fun r => decide (decode cX7_take r.1 = .ok r.2)) = true := by decide +kernel
theorem dX7_take_103 : decode cX7_take 103 = .ok (.iload 5, 2) := of_row (r := (103, .iload 5, 2)) DX7_take_b1 0 rfl
theorem dX7_take_105 : decode cX7_take 105 = .ok (.invokestatic 348, 3) := of_row (r := (105, .invokestatic 348, 3)) DX7_take_b1 1 rfl
theorem dX7_take_108 : decode cX7_take 108 = .ok (.iadd, 1) := of_row (r := (108, .iadd, 1)) DX7_take_b1 2 rfl
theorem dX7_take_109 : decode cX7_take 109 = .ok (.iastore, 1) := of_row (r := (109, .iastore, 1)) DX7_take_b1 3 rfl
theorem dX7_take_110 : decode cX7_take 110 = .ok (.iinc 2 1, 3) := of_row (r := (110, .iinc 2 1, 3)) DX7_take_b1 4 rfl
theorem dX7_take_113 : decode cX7_take 113 = .ok (.goto (-38), 3) := of_row (r := (113, .goto (-38), 3)) DX7_take_b1 5 rfl
theorem dX7_take_116 : decode cX7_take 116 = .ok (.goto (-73), 3) := of_row (r := (116, .goto (-73), 3)) DX7_take_b1 6 rfl
theorem dX7_take_119 : decode cX7_take 119 = .ok (.aload_n 0, 1) := of_row (r := (119, .aload_n 0, 1)) DX7_take_b1 7 rfl
theorem dX7_take_120 : decode cX7_take 120 = .ok (.getfield 118, 3) := of_row (r := (120, .getfield 118, 3)) DX7_take_b1 8 rfl
theorem dX7_take_123 : decode cX7_take 123 = .ok (.iload_n 3, 1) := of_row (r := (123, .iload_n 3, 1)) DX7_take_b1 9 rfl
theorem dX7_take_124 : decode cX7_take 124 = .ok (.dup2, 1) := of_row (r := (124, .dup2, 1)) DX7_take_b1 10 rfl
theorem dX7_take_125 : decode cX7_take 125 = .ok (.iaload, 1) := of_row (r := (125, .iaload, 1)) DX7_take_b1 11 rfl
theorem dX7_take_126 : decode cX7_take 126 = .ok (.iload 4, 2) := of_row (r := (126, .iload 4, 2)) DX7_take_b1 12 rfl
theorem dX7_take_128 : decode cX7_take 128 = .ok (.isub, 1) := of_row (r := (128, .isub, 1)) DX7_take_b1 13 rfl
theorem dX7_take_129 : decode cX7_take 129 = .ok (.iastore, 1) := of_row (r := (129, .iastore, 1)) DX7_take_b1 14 rfl
theorem dX7_take_130 : decode cX7_take 130 = .ok (.iinc 3 1, 3) := of_row (r := (130, .iinc 3 1, 3)) DX7_take_b1 15 rfl
theorem dX7_take_133 : decode cX7_take 133 = .ok (.goto (-103), 3) := of_row (r := (133, .goto (-103), 3)) DX7_take_b1 16 rfl
theorem dX7_take_136 : decode cX7_take 136 = .ok (.iload_n 2, 1) := of_row (r := (136, .iload_n 2, 1)) DX7_take_b1 17 rfl
theorem dX7_take_137 : decode cX7_take 137 = .ok (.ireturn, 1) := of_row (r := (137, .ireturn, 1)) DX7_take_b1 18 rfl
set_option maxRecDepth 20000 in
theorem DX7_cloth_b0 : ([(0, .iload_n 1, 1), (1, .iconst 0, 1), (2, .iconst 5, 1), (3, .invokestatic 132, 3), (6, .ifCond .eq 12, 3), (9, .aload_n 0, 1), (10, .getfield 118, 3), (13, .iload_n 1, 1), (14, .iaload, 1), (15, .goto 4, 3), (18, .iconst (-1), 1), (19, .ireturn, 1)] : List (Nat × Instr × Nat)).all (fun r => decide (decode cX7_cloth r.1 = .ok r.2)) = true := by decide +kernel
theorem dX7_cloth_0 : decode cX7_cloth 0 = .ok (.iload_n 1, 1) := of_row (r := (0, .iload_n 1, 1)) DX7_cloth_b0 0 rfl
theorem dX7_cloth_1 : decode cX7_cloth 1 = .ok (.iconst 0, 1) := of_row (r := (1, .iconst 0, 1)) DX7_cloth_b0 1 rfl
theorem dX7_cloth_2 : decode cX7_cloth 2 = .ok (.iconst 5, 1) := of_row (r := (2, .iconst 5, 1)) DX7_cloth_b0 2 rfl
theorem dX7_cloth_3 : decode cX7_cloth 3 = .ok (.invokestatic 132, 3) := of_row (r := (3, .invokestatic 132, 3)) DX7_cloth_b0 3 rfl
theorem dX7_cloth_6 : decode cX7_cloth 6 = .ok (.ifCond .eq 12, 3) := of_row (r := (6, .ifCond .eq 12, 3)) DX7_cloth_b0 4 rfl
theorem dX7_cloth_9 : decode cX7_cloth 9 = .ok (.aload_n 0, 1) := of_row (r := (9, .aload_n 0, 1)) DX7_cloth_b0 5 rfl
theorem dX7_cloth_10 : decode cX7_cloth 10 = .ok (.getfield 118, 3) := of_row (r := (10, .getfield 118, 3)) DX7_cloth_b0 6 rfl
theorem dX7_cloth_13 : decode cX7_cloth 13 = .ok (.iload_n 1, 1) := of_row (r := (13, .iload_n 1, 1)) DX7_cloth_b0 7 rfl
theorem dX7_cloth_14 : decode cX7_cloth 14 = .ok (.iaload, 1) := of_row (r := (14, .iaload, 1)) DX7_cloth_b0 8 rfl
theorem dX7_cloth_15 : decode cX7_cloth 15 = .ok (.goto 4, 3) := of_row (r := (15, .goto 4, 3)) DX7_cloth_b0 9 rfl
theorem dX7_cloth_18 : decode cX7_cloth 18 = .ok (.iconst (-1), 1) := of_row (r := (18, .iconst (-1), 1)) DX7_cloth_b0 10 rfl
theorem dX7_cloth_19 : decode cX7_cloth 19 = .ok (.ireturn, 1) := of_row (r := (19, .ireturn, 1)) DX7_cloth_b0 11 rfl
set_option maxRecDepth 20000 in
theorem DX7_sum_b0 : ([(0, .lconst 0, 1), (1, .lstore_n 2, 1), (2, .iload_n 1, 1), (3, .tableswitch 177 0 6 #[41, 46, 51, 79, 110, 141, 172], 41), (44, .aload_n 0, 1), (45, .invokevirtual 351, 3), (48, .lreturn, 1), (49, .aload_n 0, 1), (50, .getfield 335, 3), (53, .lreturn, 1), (54, .iconst 0, 1), (55, .istore 4, 2), (57, .iload 4, 2), (59, .bipush 16, 2), (61, .if_icmp .ge 19, 3), (64, .lload_n 2, 1), (65, .aload_n 0, 1), (66, .getfield 71, 3), (69, .iload 4, 2), (71, .laload, 1), (72, .ladd, 1), (73, .lstore_n 2, 1), (74, .iinc 4 1, 3), (77, .goto (-20), 3), (80, .lload_n 2, 1), (81, .lreturn, 1), (82, .iconst 0, 1), (83, .istore 4, 2), (85, .iload 4, 2), (87, .aload_n 0, 1), (88, .getfield 277, 3), (91, .if_icmp .ge 20, 3), (94, .lload_n 2, 1), (95, .aload_n 0, 1), (96, .getfield 59, 3), (99, .iload 4, 2), (101, .iaload, 1), (102, .i2l, 1), (103, .ladd, 1), (104, .lstore_n 2, 1), (105, .iinc 4 1, 3), (108, .goto (-23), 3), (111, .lload_n 2, 1), (112, .lreturn, 1), (113, .iconst 0, 1), (114, .istore 4, 2), (116, .iload 4, 2), (118, .aload_n 0, 1), (119, .getfield 277, 3), (122, .if_icmp .ge 20, 3), (125, .lload_n 2, 1), (126, .aload_n 0, 1), (127, .getfield 68, 3), (130, .iload 4, 2), (132, .iaload, 1), (133, .i2l, 1), (134, .ladd, 1), (135, .lstore_n 2, 1), (136, .iinc 4 1, 3), (139, .goto (-23), 3)] : List (Nat × Instr × Nat)).all (fun r => decide (decode cX7_sum r.1 = .ok r.2)) = true := by decide +kernel
theorem dX7_sum_0 : decode cX7_sum 0 = .ok (.lconst 0, 1) := of_row (r := (0, .lconst 0, 1)) DX7_sum_b0 0 rfl
theorem dX7_sum_1 : decode cX7_sum 1 = .ok (.lstore_n 2, 1) := of_row (r := (1, .lstore_n 2, 1)) DX7_sum_b0 1 rfl
theorem dX7_sum_2 : decode cX7_sum 2 = .ok (.iload_n 1, 1) := of_row (r := (2, .iload_n 1, 1)) DX7_sum_b0 2 rfl
theorem dX7_sum_3 : decode cX7_sum 3 = .ok (.tableswitch 177 0 6 #[41, 46, 51, 79, 110, 141, 172], 41) := of_row (r := (3, .tableswitch 177 0 6 #[41, 46, 51, 79, 110, 141, 172], 41)) DX7_sum_b0 3 rfl
theorem dX7_sum_44 : decode cX7_sum 44 = .ok (.aload_n 0, 1) := of_row (r := (44, .aload_n 0, 1)) DX7_sum_b0 4 rfl
theorem dX7_sum_45 : decode cX7_sum 45 = .ok (.invokevirtual 351, 3) := of_row (r := (45, .invokevirtual 351, 3)) DX7_sum_b0 5 rfl
theorem dX7_sum_48 : decode cX7_sum 48 = .ok (.lreturn, 1) := of_row (r := (48, .lreturn, 1)) DX7_sum_b0 6 rfl
theorem dX7_sum_49 : decode cX7_sum 49 = .ok (.aload_n 0, 1) := of_row (r := (49, .aload_n 0, 1)) DX7_sum_b0 7 rfl
theorem dX7_sum_50 : decode cX7_sum 50 = .ok (.getfield 335, 3) := of_row (r := (50, .getfield 335, 3)) DX7_sum_b0 8 rfl
theorem dX7_sum_53 : decode cX7_sum 53 = .ok (.lreturn, 1) := of_row (r := (53, .lreturn, 1)) DX7_sum_b0 9 rfl
theorem dX7_sum_54 : decode cX7_sum 54 = .ok (.iconst 0, 1) := of_row (r := (54, .iconst 0, 1)) DX7_sum_b0 10 rfl
theorem dX7_sum_55 : decode cX7_sum 55 = .ok (.istore 4, 2) := of_row (r := (55, .istore 4, 2)) DX7_sum_b0 11 rfl
theorem dX7_sum_57 : decode cX7_sum 57 = .ok (.iload 4, 2) := of_row (r := (57, .iload 4, 2)) DX7_sum_b0 12 rfl
theorem dX7_sum_59 : decode cX7_sum 59 = .ok (.bipush 16, 2) := of_row (r := (59, .bipush 16, 2)) DX7_sum_b0 13 rfl
theorem dX7_sum_61 : decode cX7_sum 61 = .ok (.if_icmp .ge 19, 3) := of_row (r := (61, .if_icmp .ge 19, 3)) DX7_sum_b0 14 rfl
theorem dX7_sum_64 : decode cX7_sum 64 = .ok (.lload_n 2, 1) := of_row (r := (64, .lload_n 2, 1)) DX7_sum_b0 15 rfl
theorem dX7_sum_65 : decode cX7_sum 65 = .ok (.aload_n 0, 1) := of_row (r := (65, .aload_n 0, 1)) DX7_sum_b0 16 rfl
theorem dX7_sum_66 : decode cX7_sum 66 = .ok (.getfield 71, 3) := of_row (r := (66, .getfield 71, 3)) DX7_sum_b0 17 rfl
theorem dX7_sum_69 : decode cX7_sum 69 = .ok (.iload 4, 2) := of_row (r := (69, .iload 4, 2)) DX7_sum_b0 18 rfl
theorem dX7_sum_71 : decode cX7_sum 71 = .ok (.laload, 1) := of_row (r := (71, .laload, 1)) DX7_sum_b0 19 rfl
theorem dX7_sum_72 : decode cX7_sum 72 = .ok (.ladd, 1) := of_row (r := (72, .ladd, 1)) DX7_sum_b0 20 rfl
theorem dX7_sum_73 : decode cX7_sum 73 = .ok (.lstore_n 2, 1) := of_row (r := (73, .lstore_n 2, 1)) DX7_sum_b0 21 rfl
theorem dX7_sum_74 : decode cX7_sum 74 = .ok (.iinc 4 1, 3) := of_row (r := (74, .iinc 4 1, 3)) DX7_sum_b0 22 rfl
theorem dX7_sum_77 : decode cX7_sum 77 = .ok (.goto (-20), 3) := of_row (r := (77, .goto (-20), 3)) DX7_sum_b0 23 rfl
theorem dX7_sum_80 : decode cX7_sum 80 = .ok (.lload_n 2, 1) := of_row (r := (80, .lload_n 2, 1)) DX7_sum_b0 24 rfl
theorem dX7_sum_81 : decode cX7_sum 81 = .ok (.lreturn, 1) := of_row (r := (81, .lreturn, 1)) DX7_sum_b0 25 rfl
theorem dX7_sum_82 : decode cX7_sum 82 = .ok (.iconst 0, 1) := of_row (r := (82, .iconst 0, 1)) DX7_sum_b0 26 rfl
theorem dX7_sum_83 : decode cX7_sum 83 = .ok (.istore 4, 2) := of_row (r := (83, .istore 4, 2)) DX7_sum_b0 27 rfl
theorem dX7_sum_85 : decode cX7_sum 85 = .ok (.iload 4, 2) := of_row (r := (85, .iload 4, 2)) DX7_sum_b0 28 rfl
theorem dX7_sum_87 : decode cX7_sum 87 = .ok (.aload_n 0, 1) := of_row (r := (87, .aload_n 0, 1)) DX7_sum_b0 29 rfl
theorem dX7_sum_88 : decode cX7_sum 88 = .ok (.getfield 277, 3) := of_row (r := (88, .getfield 277, 3)) DX7_sum_b0 30 rfl
theorem dX7_sum_91 : decode cX7_sum 91 = .ok (.if_icmp .ge 20, 3) := of_row (r := (91, .if_icmp .ge 20, 3)) DX7_sum_b0 31 rfl
theorem dX7_sum_94 : decode cX7_sum 94 = .ok (.lload_n 2, 1) := of_row (r := (94, .lload_n 2, 1)) DX7_sum_b0 32 rfl
theorem dX7_sum_95 : decode cX7_sum 95 = .ok (.aload_n 0, 1) := of_row (r := (95, .aload_n 0, 1)) DX7_sum_b0 33 rfl
theorem dX7_sum_96 : decode cX7_sum 96 = .ok (.getfield 59, 3) := of_row (r := (96, .getfield 59, 3)) DX7_sum_b0 34 rfl
theorem dX7_sum_99 : decode cX7_sum 99 = .ok (.iload 4, 2) := of_row (r := (99, .iload 4, 2)) DX7_sum_b0 35 rfl
theorem dX7_sum_101 : decode cX7_sum 101 = .ok (.iaload, 1) := of_row (r := (101, .iaload, 1)) DX7_sum_b0 36 rfl
theorem dX7_sum_102 : decode cX7_sum 102 = .ok (.i2l, 1) := of_row (r := (102, .i2l, 1)) DX7_sum_b0 37 rfl
theorem dX7_sum_103 : decode cX7_sum 103 = .ok (.ladd, 1) := of_row (r := (103, .ladd, 1)) DX7_sum_b0 38 rfl
theorem dX7_sum_104 : decode cX7_sum 104 = .ok (.lstore_n 2, 1) := of_row (r := (104, .lstore_n 2, 1)) DX7_sum_b0 39 rfl
theorem dX7_sum_105 : decode cX7_sum 105 = .ok (.iinc 4 1, 3) := of_row (r := (105, .iinc 4 1, 3)) DX7_sum_b0 40 rfl
theorem dX7_sum_108 : decode cX7_sum 108 = .ok (.goto (-23), 3) := of_row (r := (108, .goto (-23), 3)) DX7_sum_b0 41 rfl
theorem dX7_sum_111 : decode cX7_sum 111 = .ok (.lload_n 2, 1) := of_row (r := (111, .lload_n 2, 1)) DX7_sum_b0 42 rfl
theorem dX7_sum_112 : decode cX7_sum 112 = .ok (.lreturn, 1) := of_row (r := (112, .lreturn, 1)) DX7_sum_b0 43 rfl
theorem dX7_sum_113 : decode cX7_sum 113 = .ok (.iconst 0, 1) := of_row (r := (113, .iconst 0, 1)) DX7_sum_b0 44 rfl
theorem dX7_sum_114 : decode cX7_sum 114 = .ok (.istore 4, 2) := of_row (r := (114, .istore 4, 2)) DX7_sum_b0 45 rfl
theorem dX7_sum_116 : decode cX7_sum 116 = .ok (.iload 4, 2) := of_row (r := (116, .iload 4, 2)) DX7_sum_b0 46 rfl
theorem dX7_sum_118 : decode cX7_sum 118 = .ok (.aload_n 0, 1) := of_row (r := (118, .aload_n 0, 1)) DX7_sum_b0 47 rfl
theorem dX7_sum_119 : decode cX7_sum 119 = .ok (.getfield 277, 3) := of_row (r := (119, .getfield 277, 3)) DX7_sum_b0 48 rfl
theorem dX7_sum_122 : decode cX7_sum 122 = .ok (.if_icmp .ge 20, 3) := of_row (r := (122, .if_icmp .ge 20, 3)) DX7_sum_b0 49 rfl
theorem dX7_sum_125 : decode cX7_sum 125 = .ok (.lload_n 2, 1) := of_row (r := (125, .lload_n 2, 1)) DX7_sum_b0 50 rfl
theorem dX7_sum_126 : decode cX7_sum 126 = .ok (.aload_n 0, 1) := of_row (r := (126, .aload_n 0, 1)) DX7_sum_b0 51 rfl
theorem dX7_sum_127 : decode cX7_sum 127 = .ok (.getfield 68, 3) := of_row (r := (127, .getfield 68, 3)) DX7_sum_b0 52 rfl
theorem dX7_sum_130 : decode cX7_sum 130 = .ok (.iload 4, 2) := of_row (r := (130, .iload 4, 2)) DX7_sum_b0 53 rfl
theorem dX7_sum_132 : decode cX7_sum 132 = .ok (.iaload, 1) := of_row (r := (132, .iaload, 1)) DX7_sum_b0 54 rfl
theorem dX7_sum_133 : decode cX7_sum 133 = .ok (.i2l, 1) := of_row (r := (133, .i2l, 1)) DX7_sum_b0 55 rfl
theorem dX7_sum_134 : decode cX7_sum 134 = .ok (.ladd, 1) := of_row (r := (134, .ladd, 1)) DX7_sum_b0 56 rfl
theorem dX7_sum_135 : decode cX7_sum 135 = .ok (.lstore_n 2, 1) := of_row (r := (135, .lstore_n 2, 1)) DX7_sum_b0 57 rfl
theorem dX7_sum_136 : decode cX7_sum 136 = .ok (.iinc 4 1, 3) := of_row (r := (136, .iinc 4 1, 3)) DX7_sum_b0 58 rfl
theorem dX7_sum_139 : decode cX7_sum 139 = .ok (.goto (-23), 3) := of_row (r := (139, .goto (-23), 3)) DX7_sum_b0 59 rfl
set_option maxRecDepth 20000 in
theorem DX7_sum_b1 : ([(142, .lload_n 2, 1), (143, .lreturn, 1), (144, .iconst 0, 1), (145, .istore 4, 2), (147, .iload 4, 2), (149, .aload_n 0, 1), (150, .getfield 277, 3), (153, .if_icmp .ge 20, 3), (156, .lload_n 2, 1), (157, .aload_n 0, 1), (158, .getfield 56, 3), (161, .iload 4, 2), (163, .iaload, 1), (164, .i2l, 1), (165, .ladd, 1), (166, .lstore_n 2, 1), (167, .iinc 4 1, 3), (170, .goto (-23), 3), (173, .lload_n 2, 1), (174, .lreturn, 1), (175, .aload_n 0, 1), (176, .getfield 325, 3), (179, .lreturn, 1), (180, .ldc2_w 338, 3), (183, .lreturn, 1)] : List (Nat × Instr × Nat)).all (fun r => decide (decode cX7_sum r.1 = .ok r.2)) = true := by decide +kernel
theorem dX7_sum_142 : decode cX7_sum 142 = .ok (.lload_n 2, 1) := of_row (r := (142, .lload_n 2, 1)) DX7_sum_b1 0 rfl
theorem dX7_sum_143 : decode cX7_sum 143 = .ok (.lreturn, 1) := of_row (r := (143, .lreturn, 1)) DX7_sum_b1 1 rfl
theorem dX7_sum_144 : decode cX7_sum 144 = .ok (.iconst 0, 1) := of_row (r := (144, .iconst 0, 1)) DX7_sum_b1 2 rfl
theorem dX7_sum_145 : decode cX7_sum 145 = .ok (.istore 4, 2) := of_row (r := (145, .istore 4, 2)) DX7_sum_b1 3 rfl
theorem dX7_sum_147 : decode cX7_sum 147 = .ok (.iload 4, 2) := of_row (r := (147, .iload 4, 2)) DX7_sum_b1 4 rfl
theorem dX7_sum_149 : decode cX7_sum 149 = .ok (.aload_n 0, 1) := of_row (r := (149, .aload_n 0, 1)) DX7_sum_b1 5 rfl
theorem dX7_sum_150 : decode cX7_sum 150 = .ok (.getfield 277, 3) := of_row (r := (150, .getfield 277, 3)) DX7_sum_b1 6 rfl
theorem dX7_sum_153 : decode cX7_sum 153 = .ok (.if_icmp .ge 20, 3) := of_row (r := (153, .if_icmp .ge 20, 3)) DX7_sum_b1 7 rfl
theorem dX7_sum_156 : decode cX7_sum 156 = .ok (.lload_n 2, 1) := of_row (r := (156, .lload_n 2, 1)) DX7_sum_b1 8 rfl
theorem dX7_sum_157 : decode cX7_sum 157 = .ok (.aload_n 0, 1) := of_row (r := (157, .aload_n 0, 1)) DX7_sum_b1 9 rfl
theorem dX7_sum_158 : decode cX7_sum 158 = .ok (.getfield 56, 3) := of_row (r := (158, .getfield 56, 3)) DX7_sum_b1 10 rfl
theorem dX7_sum_161 : decode cX7_sum 161 = .ok (.iload 4, 2) := of_row (r := (161, .iload 4, 2)) DX7_sum_b1 11 rfl
theorem dX7_sum_163 : decode cX7_sum 163 = .ok (.iaload, 1) := of_row (r := (163, .iaload, 1)) DX7_sum_b1 12 rfl
theorem dX7_sum_164 : decode cX7_sum 164 = .ok (.i2l, 1) := of_row (r := (164, .i2l, 1)) DX7_sum_b1 13 rfl
theorem dX7_sum_165 : decode cX7_sum 165 = .ok (.ladd, 1) := of_row (r := (165, .ladd, 1)) DX7_sum_b1 14 rfl
theorem dX7_sum_166 : decode cX7_sum 166 = .ok (.lstore_n 2, 1) := of_row (r := (166, .lstore_n 2, 1)) DX7_sum_b1 15 rfl
theorem dX7_sum_167 : decode cX7_sum 167 = .ok (.iinc 4 1, 3) := of_row (r := (167, .iinc 4 1, 3)) DX7_sum_b1 16 rfl
theorem dX7_sum_170 : decode cX7_sum 170 = .ok (.goto (-23), 3) := of_row (r := (170, .goto (-23), 3)) DX7_sum_b1 17 rfl
theorem dX7_sum_173 : decode cX7_sum 173 = .ok (.lload_n 2, 1) := of_row (r := (173, .lload_n 2, 1)) DX7_sum_b1 18 rfl
theorem dX7_sum_174 : decode cX7_sum 174 = .ok (.lreturn, 1) := of_row (r := (174, .lreturn, 1)) DX7_sum_b1 19 rfl
theorem dX7_sum_175 : decode cX7_sum 175 = .ok (.aload_n 0, 1) := of_row (r := (175, .aload_n 0, 1)) DX7_sum_b1 20 rfl
theorem dX7_sum_176 : decode cX7_sum 176 = .ok (.getfield 325, 3) := of_row (r := (176, .getfield 325, 3)) DX7_sum_b1 21 rfl
theorem dX7_sum_179 : decode cX7_sum 179 = .ok (.lreturn, 1) := of_row (r := (179, .lreturn, 1)) DX7_sum_b1 22 rfl
theorem dX7_sum_180 : decode cX7_sum 180 = .ok (.ldc2_w 338, 3) := of_row (r := (180, .ldc2_w 338, 3)) DX7_sum_b1 23 rfl
theorem dX7_sum_183 : decode cX7_sum 183 = .ok (.lreturn, 1) := of_row (r := (183, .lreturn, 1)) DX7_sum_b1 24 rfl
set_option maxRecDepth 20000 in
theorem DX7_count_b0 : ([(0, .iload_n 1, 1), (1, .tableswitch 69 0 5 #[39, 44, 49, 54, 59, 64], 39), (40, .aload_n 0, 1), (41, .getfield 277, 3), (44, .ireturn, 1), (45, .aload_n 0, 1), (46, .getfield 319, 3), (49, .ireturn, 1), (50, .aload_n 0, 1), (51, .getfield 322, 3), (54, .ireturn, 1), (55, .aload_n 0, 1), (56, .getfield 220, 3), (59, .ireturn, 1), (60, .aload_n 0, 1), (61, .getfield 267, 3), (64, .ireturn, 1), (65, .aload_n 0, 1), (66, .getfield 125, 3), (69, .ireturn, 1), (70, .iconst (-1), 1), (71, .ireturn, 1)] : List (Nat × Instr × Nat)).all (fun r => decide (decode cX7_count r.1 = .ok r.2)) = true := by decide +kernel
theorem dX7_count_0 : decode cX7_count 0 = .ok (.iload_n 1, 1) := of_row (r := (0, .iload_n 1, 1)) DX7_count_b0 0 rfl
theorem dX7_count_1 : decode cX7_count 1 = .ok (.tableswitch 69 0 5 #[39, 44, 49, 54, 59, 64], 39) := of_row (r := (1, .tableswitch 69 0 5 #[39, 44, 49, 54, 59, 64], 39)) DX7_count_b0 1 rfl
theorem dX7_count_40 : decode cX7_count 40 = .ok (.aload_n 0, 1) := of_row (r := (40, .aload_n 0, 1)) DX7_count_b0 2 rfl
theorem dX7_count_41 : decode cX7_count 41 = .ok (.getfield 277, 3) := of_row (r := (41, .getfield 277, 3)) DX7_count_b0 3 rfl
theorem dX7_count_44 : decode cX7_count 44 = .ok (.ireturn, 1) := of_row (r := (44, .ireturn, 1)) DX7_count_b0 4 rfl
theorem dX7_count_45 : decode cX7_count 45 = .ok (.aload_n 0, 1) := of_row (r := (45, .aload_n 0, 1)) DX7_count_b0 5 rfl
theorem dX7_count_46 : decode cX7_count 46 = .ok (.getfield 319, 3) := of_row (r := (46, .getfield 319, 3)) DX7_count_b0 6 rfl
theorem dX7_count_49 : decode cX7_count 49 = .ok (.ireturn, 1) := of_row (r := (49, .ireturn, 1)) DX7_count_b0 7 rfl
theorem dX7_count_50 : decode cX7_count 50 = .ok (.aload_n 0, 1) := of_row (r := (50, .aload_n 0, 1)) DX7_count_b0 8 rfl
theorem dX7_count_51 : decode cX7_count 51 = .ok (.getfield 322, 3) := of_row (r := (51, .getfield 322, 3)) DX7_count_b0 9 rfl
theorem dX7_count_54 : decode cX7_count 54 = .ok (.ireturn, 1) := of_row (r := (54, .ireturn, 1)) DX7_count_b0 10 rfl
theorem dX7_count_55 : decode cX7_count 55 = .ok (.aload_n 0, 1) := of_row (r := (55, .aload_n 0, 1)) DX7_count_b0 11 rfl
theorem dX7_count_56 : decode cX7_count 56 = .ok (.getfield 220, 3) := of_row (r := (56, .getfield 220, 3)) DX7_count_b0 12 rfl
theorem dX7_count_59 : decode cX7_count 59 = .ok (.ireturn, 1) := of_row (r := (59, .ireturn, 1)) DX7_count_b0 13 rfl
theorem dX7_count_60 : decode cX7_count 60 = .ok (.aload_n 0, 1) := of_row (r := (60, .aload_n 0, 1)) DX7_count_b0 14 rfl
theorem dX7_count_61 : decode cX7_count 61 = .ok (.getfield 267, 3) := of_row (r := (61, .getfield 267, 3)) DX7_count_b0 15 rfl
theorem dX7_count_64 : decode cX7_count 64 = .ok (.ireturn, 1) := of_row (r := (64, .ireturn, 1)) DX7_count_b0 16 rfl
theorem dX7_count_65 : decode cX7_count 65 = .ok (.aload_n 0, 1) := of_row (r := (65, .aload_n 0, 1)) DX7_count_b0 17 rfl
theorem dX7_count_66 : decode cX7_count 66 = .ok (.getfield 125, 3) := of_row (r := (66, .getfield 125, 3)) DX7_count_b0 18 rfl
theorem dX7_count_69 : decode cX7_count 69 = .ok (.ireturn, 1) := of_row (r := (69, .ireturn, 1)) DX7_count_b0 19 rfl
theorem dX7_count_70 : decode cX7_count 70 = .ok (.iconst (-1), 1) := of_row (r := (70, .iconst (-1), 1)) DX7_count_b0 20 rfl
theorem dX7_count_71 : decode cX7_count 71 = .ok (.ireturn, 1) := of_row (r := (71, .ireturn, 1)) DX7_count_b0 21 rfl
set_option maxRecDepth 20000 in
theorem ggX7_feed_X7_bytes : GoodIn wsX7_feed wsX7_bytes := goodIn_r _ [6, 7, 1, 8, 9, 10, 11, 12, 13, 14, 15, 16, 17, 18, 19, 20, 21, 22, 23, 24, 25, 26, 27, 28, 29, 30, 31, 32, 33, 34, 35, 36, 37, 38, 39, 40, 41, 42, 43, 44, 45, 46, 47, 48, 49, 50, 51, 52, 53, 54, 55, 56, 57, 58, 59, 60, 61, 62, 63] (by decide +kernel) (by decide +kernel)
set_option maxRecDepth 20000 in
theorem gX7_feed_X7_bytes : GoodIn wsX7_feed (wsV RX7 128 RX7 yX7_bytes wsX7_bytes) := goodIn_app (goodIn_of _ (by decide +kernel)) ggX7_feed_X7_bytes
set_option maxRecDepth 20000 in
theorem ggX7_end_X7_in : GoodIn wsX7_end wsX7_in := goodIn_r _ [5] (by decide +kernel) (by decide +kernel)
set_option maxRecDepth 20000 in
theorem gX7_end_X7_in : GoodIn wsX7_end (va_wsS RX7 132 yX7_in wsX7_in) := goodIn_app (goodIn_of _ (by decide +kernel)) ggX7_end_X7_in
set_option maxRecDepth 20000 in
theorem ggX7_advance_X7_isLetter : GoodIn wsX7_advance wsX7_isLetter := goodIn_r _ [13] (by decide +kernel) (by decide +kernel)
set_option maxRecDepth 20000 in
theorem gX7_advance_X7_isLetter : GoodIn wsX7_advance (va_wsS RX7 145 yX7_isLetter wsX7_isLetter) := goodIn_app (goodIn_of _ (by decide +kernel)) ggX7_advance_X7_isLetter
set_option maxRecDepth 20000 in
theorem ggX7_advance_X7_wordOf : GoodIn wsX7_advance wsX7_wordOf := goodIn_r _ [16, 17, 18, 19, 20, 21, 22, 23, 24, 25, 26, 27, 28, 29, 30, 31, 32, 33, 34, 35, 36, 37] (by decide +kernel) (by decide +kernel)
set_option maxRecDepth 20000 in
theorem gX7_advance_X7_wordOf : GoodIn wsX7_advance (va_wsS RX7 153 yX7_wordOf wsX7_wordOf) := goodIn_app (goodIn_of _ (by decide +kernel)) ggX7_advance_X7_wordOf
set_option maxRecDepth 20000 in
theorem ggX7_advance_X7_isDigit : GoodIn wsX7_advance wsX7_isDigit := goodIn_r _ [40] (by decide +kernel) (by decide +kernel)
set_option maxRecDepth 20000 in
theorem gX7_advance_X7_isDigit : GoodIn wsX7_advance (va_wsS RX7 157 yX7_isDigit wsX7_isDigit) := goodIn_app (goodIn_of _ (by decide +kernel)) ggX7_advance_X7_isDigit
set_option maxRecDepth 20000 in
theorem ggX7_takes_X7_wrong : GoodIn wsX7_takes wsX7_wrong := goodIn_r _ [7, 1, 8, 50, 51, 52, 53, 54, 55, 56, 57, 58, 59, 60, 61, 62, 63, 64, 65, 66, 67, 68, 69, 70, 71, 72, 73, 74, 75, 76, 77, 78, 79, 80, 81, 82, 83, 84, 85, 86, 87, 88, 89, 90, 91, 92, 93, 94, 95, 96, 97, 98, 99, 100, 101, 102, 103, 104, 105] (by decide +kernel) (by decide +kernel)
set_option maxRecDepth 20000 in
theorem gX7_takes_X7_wrong : GoodIn wsX7_takes (wsV RX7 211 RX7 yX7_wrong wsX7_wrong) := goodIn_app (goodIn_of _ (by decide +kernel)) ggX7_takes_X7_wrong
set_option maxRecDepth 20000 in
theorem ggX7_takes_X7_advance : GoodIn wsX7_takes wsX7_advance := goodIn_r _ [12, 13, 14, 15, 8, 2, 16, 17, 18, 19, 20, 21, 6, 22, 23, 24, 25, 26, 27, 28, 29, 30, 31, 32, 33, 34, 35, 36, 37, 38, 39, 40, 41, 42, 43, 44, 45, 46, 47, 48, 49, 50, 51, 52, 53, 54, 55, 56, 57, 58, 59, 60, 61, 62, 63, 64, 65, 66, 67, 68, 69, 70, 71, 72, 73, 74, 75, 76, 77, 78, 79, 80, 81, 82, 83, 84, 85, 86, 87, 88, 89, 90, 91, 92, 93, 94, 95, 96, 97, 98, 99, 100, 101, 102, 103, 104, 105] (by decide +kernel) (by decide +kernel)
set_option maxRecDepth 20000 in
theorem gX7_takes_X7_advance : GoodIn wsX7_takes (wsV RX7 214 RX7 yX7_advance wsX7_advance) := goodIn_app (goodIn_of _ (by decide +kernel)) ggX7_takes_X7_advance
set_option maxRecDepth 20000 in
theorem ggX7_text_X7_advance : GoodIn wsX7_text wsX7_advance := goodIn_r _ [12, 2, 7, 13, 14, 6, 15, 16, 17, 18, 19, 20, 11, 21, 22, 23, 24, 25, 26, 27, 28, 29, 30, 31, 32, 33, 34, 35, 36, 37, 38, 39, 40, 41, 42, 43, 44, 45, 46, 47, 48, 109, 110, 111, 112, 113, 114, 115, 116, 117, 118, 119, 120, 121, 122, 123, 124, 125, 126, 127, 128, 129, 130, 131, 132, 133, 134, 135, 136, 137, 138, 139, 140, 141, 142, 143, 144, 145, 146, 147, 148, 149, 150, 151, 152, 153, 154, 155, 156, 157, 158, 159, 160, 161, 162, 163, 164] (by decide +kernel) (by decide +kernel)
set_option maxRecDepth 20000 in
theorem gX7_text_X7_advance : GoodIn wsX7_text (wsV RX7 214 RX7 yX7_advance wsX7_advance) := goodIn_app (goodIn_of _ (by decide +kernel)) ggX7_text_X7_advance
set_option maxRecDepth 20000 in
theorem ggX7_text_X7_statement : GoodIn wsX7_text wsX7_statement := goodIn_r _ [52, 5, 53, 4, 6, 54, 3, 55, 56, 18, 17, 57, 58, 59, 11, 60, 14, 8, 9, 10, 12, 2, 7, 13, 15, 16, 19, 20, 21, 22, 23, 24, 25, 26, 27, 28, 29, 30, 31, 32, 33, 34, 35, 36, 37, 38, 39, 40, 41, 42, 43, 44, 45, 46, 47, 48, 61, 62, 63, 64, 65, 66, 67, 68, 69, 70, 71, 72, 73, 74, 75, 76, 77, 78, 79, 80, 81, 82, 83, 84, 85, 86, 87, 88, 89, 90, 91, 92, 93, 94, 95, 96, 97, 98, 99, 100, 101, 102, 103, 104, 105, 106, 107, 108, 109, 110, 111, 112, 113, 114, 115, 116, 117, 118, 119, 120, 121, 122, 123, 124, 125, 126, 127, 128, 129, 130, 131, 132, 133, 134, 135, 136, 137, 138, 139, 140, 141, 142, 143, 144, 145, 146, 147, 148, 149, 150, 151, 152, 153, 154, 155, 156, 157, 158, 159, 160, 161, 162, 163, 164] (by decide +kernel) (by decide +kernel)
set_option maxRecDepth 20000 in
theorem gX7_text_X7_statement : GoodIn wsX7_text (wsV RX7 223 RX7 yX7_statement wsX7_statement) := goodIn_app (goodIn_of _ (by decide +kernel)) ggX7_text_X7_statement
set_option maxRecDepth 20000 in
theorem ggX7_statement_X7_wrong : GoodIn wsX7_statement wsX7_wrong := goodIn_r _ [15, 6, 16, 104, 105, 106, 107, 108, 109, 110, 111, 112, 113, 114, 115, 116, 117, 118, 119, 120, 121, 122, 123, 124, 125, 126, 127, 128, 129, 130, 131, 132, 133, 134, 135, 136, 137, 138, 139, 140, 141, 142, 143, 144, 145, 146, 147, 148, 149, 150, 151, 152, 153, 154, 155, 156, 157, 158, 159] (by decide +kernel) (by decide +kernel)
set_option maxRecDepth 20000 in
theorem gX7_statement_X7_wrong : GoodIn wsX7_statement (wsV RX7 211 RX7 yX7_wrong wsX7_wrong) := goodIn_app (goodIn_of _ (by decide +kernel)) ggX7_statement_X7_wrong
set_option maxRecDepth 20000 in
theorem ggX7_statement_X7_advance : GoodIn wsX7_statement wsX7_advance := goodIn_r _ [20, 21, 22, 23, 16, 4, 24, 25, 10, 9, 26, 27, 14, 28, 29, 30, 31, 32, 33, 34, 35, 36, 37, 38, 39, 40, 41, 42, 43, 44, 45, 46, 47, 48, 49, 50, 51, 52, 53, 54, 55, 104, 105, 106, 107, 108, 109, 110, 111, 112, 113, 114, 115, 116, 117, 118, 119, 120, 121, 122, 123, 124, 125, 126, 127, 128, 129, 130, 131, 132, 133, 134, 135, 136, 137, 138, 139, 140, 141, 142, 143, 144, 145, 146, 147, 148, 149, 150, 151, 152, 153, 154, 155, 156, 157, 158, 159] (by decide +kernel) (by decide +kernel)
set_option maxRecDepth 20000 in
theorem gX7_statement_X7_advance : GoodIn wsX7_statement (wsV RX7 214 RX7 yX7_advance wsX7_advance) := goodIn_app (goodIn_of _ (by decide +kernel)) ggX7_statement_X7_advance
set_option maxRecDepth 20000 in
theorem ggX7_statement_X7_test : GoodIn wsX7_statement wsX7_test := goodIn_r _ [59, 60, 61, 6, 4, 62, 11, 12, 13, 14, 15, 16, 17, 18, 19, 20, 21, 22, 23, 24, 25, 10, 9, 26, 27, 28, 29, 30, 31, 32, 33, 34, 35, 36, 37, 38, 39, 40, 41, 42, 43, 44, 45, 46, 47, 48, 49, 50, 51, 52, 53, 54, 55, 63, 64, 65, 66, 67, 68, 69, 70, 71, 72, 73, 74, 75, 76, 77, 78, 79, 80, 81, 82, 83, 3, 84, 85, 86, 87, 88, 89, 90, 91, 92, 93, 94, 95, 96, 97, 98, 99, 104, 105, 106, 107, 108, 109, 110, 111, 112, 113, 114, 115, 116, 117, 118, 119, 120, 121, 122, 123, 124, 125, 126, 127, 128, 129, 130, 131, 132, 133, 134, 135, 136, 137, 138, 139, 140, 141, 142, 143, 144, 145, 146, 147, 148, 149, 150, 151, 152, 153, 154, 155, 156, 157, 158, 159] (by decide +kernel) (by decide +kernel)
set_option maxRecDepth 20000 in
theorem gX7_statement_X7_test : GoodIn wsX7_statement (wsV RX7 226 RX7 yX7_test wsX7_test) := goodIn_app (goodIn_of _ (by decide +kernel)) ggX7_statement_X7_test
set_option maxRecDepth 20000 in
theorem ggX7_statement_X7_takes : GoodIn wsX7_statement wsX7_takes := goodIn_r _ [103, 6, 4, 11, 12, 13, 14, 15, 16, 17, 18, 19, 20, 21, 22, 23, 24, 25, 10, 9, 26, 27, 28, 29, 30, 31, 32, 33, 34, 35, 36, 37, 38, 39, 40, 41, 42, 43, 44, 45, 46, 47, 48, 49, 50, 51, 52, 53, 54, 55, 104, 105, 106, 107, 108, 109, 110, 111, 112, 113, 114, 115, 116, 117, 118, 119, 120, 121, 122, 123, 124, 125, 126, 127, 128, 129, 130, 131, 132, 133, 134, 135, 136, 137, 138, 139, 140, 141, 142, 143, 144, 145, 146, 147, 148, 149, 150, 151, 152, 153, 154, 155, 156, 157, 158, 159] (by decide +kernel) (by decide +kernel)
set_option maxRecDepth 20000 in
theorem gX7_statement_X7_takes : GoodIn wsX7_statement (wsV RX7 229 RX7 yX7_takes wsX7_takes) := goodIn_app (goodIn_of _ (by decide +kernel)) ggX7_statement_X7_takes
set_option maxRecDepth 20000 in
theorem ggX7_statement_X7_in : GoodIn wsX7_statement wsX7_in := goodIn_r _ [87] (by decide +kernel) (by decide +kernel)
set_option maxRecDepth 20000 in
theorem gX7_statement_X7_in : GoodIn wsX7_statement (va_wsS RX7 132 yX7_in wsX7_in) := goodIn_app (goodIn_of _ (by decide +kernel)) ggX7_statement_X7_in
set_option maxRecDepth 20000 in
theorem ggX7_close_X7_puts : GoodIn wsX7_close wsX7_puts := goodIn_r _ [7, 8, 9, 10, 11, 12, 13, 14, 15, 16, 17, 18, 19, 20, 21, 22, 23, 24, 25, 26, 27, 28, 29, 30, 31, 32, 33, 34, 35, 36, 37, 38, 39, 40, 41, 42, 43, 44, 45, 46, 47, 48, 49, 50, 51, 52, 53, 54, 55, 56, 57, 58, 59, 60, 61, 62, 63, 64, 65, 66] (by decide +kernel) (by decide +kernel)
set_option maxRecDepth 20000 in
theorem gX7_close_X7_puts : GoodIn wsX7_close (wsV RX7 235 RX7 yX7_puts wsX7_puts) := goodIn_app (goodIn_of _ (by decide +kernel)) ggX7_close_X7_puts
set_option maxRecDepth 20000 in
theorem ggX7_test_X7_wrong : GoodIn wsX7_test wsX7_wrong := goodIn_r _ [10, 3, 11, 91, 92, 93, 94, 95, 96, 97, 98, 99, 100, 101, 102, 103, 104, 105, 106, 107, 108, 109, 110, 111, 112, 113, 114, 115, 116, 117, 118, 119, 120, 121, 122, 123, 124, 125, 126, 127, 128, 129, 130, 131, 132, 133, 134, 135, 136, 137, 138, 139, 140, 141, 142, 143, 144, 145, 146] (by decide +kernel) (by decide +kernel)
set_option maxRecDepth 20000 in
theorem gX7_test_X7_wrong : GoodIn wsX7_test (wsV RX7 211 RX7 yX7_wrong wsX7_wrong) := goodIn_app (goodIn_of _ (by decide +kernel)) ggX7_test_X7_wrong
set_option maxRecDepth 20000 in
theorem ggX7_test_X7_advance : GoodIn wsX7_test wsX7_advance := goodIn_r _ [15, 16, 17, 18, 11, 4, 19, 20, 21, 22, 23, 24, 9, 25, 26, 27, 28, 29, 30, 31, 32, 33, 34, 35, 36, 37, 38, 39, 40, 41, 42, 43, 44, 45, 46, 47, 48, 49, 50, 51, 52, 91, 92, 93, 94, 95, 96, 97, 98, 99, 100, 101, 102, 103, 104, 105, 106, 107, 108, 109, 110, 111, 112, 113, 114, 115, 116, 117, 118, 119, 120, 121, 122, 123, 124, 125, 126, 127, 128, 129, 130, 131, 132, 133, 134, 135, 136, 137, 138, 139, 140, 141, 142, 143, 144, 145, 146] (by decide +kernel) (by decide +kernel)
set_option maxRecDepth 20000 in
theorem gX7_test_X7_advance : GoodIn wsX7_test (wsV RX7 214 RX7 yX7_advance wsX7_advance) := goodIn_app (goodIn_of _ (by decide +kernel)) ggX7_test_X7_advance
set_option maxRecDepth 20000 in
theorem ggX7_test_X7_relation : GoodIn wsX7_test wsX7_relation := goodIn_r _ [56, 3, 4, 57, 58, 59, 9, 60, 61, 62, 63, 64, 65, 66, 67, 68, 22, 21, 69, 70, 71, 72, 73, 74, 75, 12, 13, 14, 15, 16, 17, 18, 11, 19, 20, 23, 24, 25, 26, 27, 28, 29, 30, 31, 32, 33, 34, 35, 36, 37, 38, 39, 40, 41, 42, 43, 44, 45, 46, 47, 48, 49, 50, 51, 52, 76, 77, 78, 6, 7, 8, 10, 91, 92, 93, 94, 95, 96, 97, 98, 99, 100, 101, 102, 103, 104, 105, 106, 107, 108, 109, 110, 111, 112, 113, 114, 115, 116, 117, 118, 119, 120, 121, 122, 123, 124, 125, 126, 127, 128, 129, 130, 131, 132, 133, 134, 135, 136, 137, 138, 139, 140, 141, 142, 143, 144, 145, 146] (by decide +kernel) (by decide +kernel)
set_option maxRecDepth 20000 in
theorem gX7_test_X7_relation : GoodIn wsX7_test (wsV RX7 242 RX7 yX7_relation wsX7_relation) := goodIn_app (goodIn_of _ (by decide +kernel)) ggX7_test_X7_relation
set_option maxRecDepth 20000 in
theorem ggX7_test_X7_goesOn : GoodIn wsX7_test wsX7_goesOn := goodIn_r _ [82, 3, 2, 4, 5, 1, 83, 84, 85, 9, 86, 87, 88, 89, 90, 69, 70, 71, 72, 73, 74, 75, 12, 13, 14, 15, 16, 17, 18, 11, 19, 20, 21, 22, 23, 24, 25, 26, 27, 28, 29, 30, 31, 32, 33, 34, 35, 36, 37, 38, 39, 40, 41, 42, 43, 44, 45, 46, 47, 48, 49, 50, 51, 52, 6, 7, 8, 10, 91, 92, 93, 94, 95, 96, 97, 98, 99, 100, 101, 102, 103, 104, 105, 106, 107, 108, 109, 110, 111, 112, 113, 114, 115, 116, 117, 118, 119, 120, 121, 122, 123, 124, 125, 126, 127, 128, 129, 130, 131, 132, 133, 134, 135, 136, 137, 138, 139, 140, 141, 142, 143, 144, 145, 146] (by decide +kernel) (by decide +kernel)
set_option maxRecDepth 20000 in
theorem gX7_test_X7_goesOn : GoodIn wsX7_test (wsV RX7 245 RX7 yX7_goesOn wsX7_goesOn) := goodIn_app (goodIn_of _ (by decide +kernel)) ggX7_test_X7_goesOn
set_option maxRecDepth 20000 in
theorem ggX7_goesOn_X7_isOpen : GoodIn wsX7_goesOn wsX7_isOpen := goodIn_r _ [10, 5, 4, 68, 69, 70, 71, 72, 73, 74, 75, 76, 77, 78, 79, 80, 81, 82, 83, 84, 85, 86, 87, 88, 89, 90, 91, 92, 93, 94, 95, 96, 97, 98, 99, 100, 101, 102, 103, 104, 105, 106, 107, 108, 109, 110, 111, 112, 113, 114, 115, 116, 117, 118, 119, 120, 121, 122, 123] (by decide +kernel) (by decide +kernel)
set_option maxRecDepth 20000 in
theorem gX7_goesOn_X7_isOpen : GoodIn wsX7_goesOn (wsV RX7 249 RX7 yX7_isOpen wsX7_isOpen) := goodIn_app (goodIn_of _ (by decide +kernel)) ggX7_goesOn_X7_isOpen
set_option maxRecDepth 20000 in
theorem ggX7_goesOn_X7_close : GoodIn wsX7_goesOn wsX7_close := goodIn_r _ [14, 5, 4, 15, 16, 17, 9, 18, 19, 20, 21, 68, 69, 70, 71, 72, 73, 74, 75, 76, 77, 78, 79, 80, 81, 82, 83, 84, 85, 86, 87, 88, 89, 90, 91, 92, 93, 94, 95, 96, 97, 98, 99, 100, 101, 102, 103, 104, 105, 106, 107, 108, 109, 110, 111, 112, 113, 114, 115, 116, 117, 118, 119, 120, 121, 122, 123] (by decide +kernel) (by decide +kernel)
set_option maxRecDepth 20000 in
theorem gX7_goesOn_X7_close : GoodIn wsX7_goesOn (wsV RX7 252 RX7 yX7_close wsX7_close) := goodIn_app (goodIn_of _ (by decide +kernel)) ggX7_goesOn_X7_close
set_option maxRecDepth 20000 in
theorem ggX7_goesOn_X7_advance : GoodIn wsX7_goesOn wsX7_advance := goodIn_r _ [25, 26, 27, 28, 29, 3, 30, 31, 32, 33, 34, 35, 9, 36, 37, 38, 39, 40, 41, 42, 43, 44, 45, 46, 47, 48, 49, 50, 51, 52, 53, 54, 55, 56, 57, 58, 59, 60, 61, 62, 63, 68, 69, 70, 71, 72, 73, 74, 75, 76, 77, 78, 79, 80, 81, 82, 83, 84, 85, 86, 87, 88, 89, 90, 91, 92, 93, 94, 95, 96, 97, 98, 99, 100, 101, 102, 103, 104, 105, 106, 107, 108, 109, 110, 111, 112, 113, 114, 115, 116, 117, 118, 119, 120, 121, 122, 123] (by decide +kernel) (by decide +kernel)
set_option maxRecDepth 20000 in
theorem gX7_goesOn_X7_advance : GoodIn wsX7_goesOn (wsV RX7 214 RX7 yX7_advance wsX7_advance) := goodIn_app (goodIn_of _ (by decide +kernel)) ggX7_goesOn_X7_advance
set_option maxRecDepth 20000 in
theorem ggX7_goesOn_X7_wrong : GoodIn wsX7_goesOn wsX7_wrong := goodIn_r _ [67, 1, 29, 68, 69, 70, 71, 72, 73, 74, 75, 76, 77, 78, 79, 80, 81, 82, 83, 84, 85, 86, 87, 88, 89, 90, 91, 92, 93, 94, 95, 96, 97, 98, 99, 100, 101, 102, 103, 104, 105, 106, 107, 108, 109, 110, 111, 112, 113, 114, 115, 116, 117, 118, 119, 120, 121, 122, 123] (by decide +kernel) (by decide +kernel)
set_option maxRecDepth 20000 in
theorem gX7_goesOn_X7_wrong : GoodIn wsX7_goesOn (wsV RX7 211 RX7 yX7_wrong wsX7_wrong) := goodIn_app (goodIn_of _ (by decide +kernel)) ggX7_goesOn_X7_wrong
set_option maxRecDepth 20000 in
theorem ggX7_relation_X7_readSum : GoodIn wsX7_relation wsX7_readSum := goodIn_r _ [7, 1, 2, 8, 9, 10, 6, 11, 12, 13, 14, 15, 16, 17, 18, 19, 20, 21, 22, 23, 24, 25, 26, 27, 28, 29, 30, 31, 32, 33, 34, 35, 36, 37, 38, 39, 40, 41, 42, 43, 44, 45, 46, 47, 48, 49, 50, 51, 52, 53, 54, 55, 56, 57, 58, 59, 60, 61, 62, 63, 64, 65, 66, 67, 68, 69, 70, 71, 72, 73, 74, 75, 76, 77, 78, 79, 80, 81, 82, 83, 84, 85, 86, 87, 88, 89, 90, 91, 92, 93, 94, 95, 96, 97, 98, 99, 100, 101, 102, 103, 104, 105, 106, 107, 108, 109, 110, 111, 112, 113, 114, 115, 116, 117, 118, 119, 120, 121, 122, 123, 124, 125, 126, 127] (by decide +kernel) (by decide +kernel)
set_option maxRecDepth 20000 in
theorem gX7_relation_X7_readSum : GoodIn wsX7_relation (wsV RX7 255 RX7 yX7_readSum wsX7_readSum) := goodIn_app (goodIn_of _ (by decide +kernel)) ggX7_relation_X7_readSum
set_option maxRecDepth 20000 in
theorem ggX7_relation_X7_wrong : GoodIn wsX7_relation wsX7_wrong := goodIn_r _ [71, 1, 32, 72, 73, 74, 75, 76, 77, 78, 79, 80, 81, 82, 83, 84, 85, 86, 87, 88, 89, 90, 91, 92, 93, 94, 95, 96, 97, 98, 99, 100, 101, 102, 103, 104, 105, 106, 107, 108, 109, 110, 111, 112, 113, 114, 115, 116, 117, 118, 119, 120, 121, 122, 123, 124, 125, 126, 127] (by decide +kernel) (by decide +kernel)
set_option maxRecDepth 20000 in
theorem gX7_relation_X7_wrong : GoodIn wsX7_relation (wsV RX7 211 RX7 yX7_wrong wsX7_wrong) := goodIn_app (goodIn_of _ (by decide +kernel)) ggX7_relation_X7_wrong
set_option maxRecDepth 20000 in
theorem ggX7_relation_X7_advance : GoodIn wsX7_relation wsX7_advance := goodIn_r _ [28, 29, 30, 31, 32, 2, 33, 34, 17, 16, 35, 36, 6, 37, 38, 39, 40, 41, 42, 43, 44, 45, 46, 47, 48, 49, 50, 51, 52, 53, 54, 55, 56, 57, 58, 59, 60, 61, 62, 63, 64, 72, 73, 74, 75, 76, 77, 78, 79, 80, 81, 82, 83, 84, 85, 86, 87, 88, 89, 90, 91, 92, 93, 94, 95, 96, 97, 98, 99, 100, 101, 102, 103, 104, 105, 106, 107, 108, 109, 110, 111, 112, 113, 114, 115, 116, 117, 118, 119, 120, 121, 122, 123, 124, 125, 126, 127] (by decide +kernel) (by decide +kernel)
set_option maxRecDepth 20000 in
theorem gX7_relation_X7_advance : GoodIn wsX7_relation (wsV RX7 214 RX7 yX7_advance wsX7_advance) := goodIn_app (goodIn_of _ (by decide +kernel)) ggX7_relation_X7_advance
set_option maxRecDepth 20000 in
theorem ggX7_relation_X7_puts : GoodIn wsX7_relation wsX7_puts := goodIn_r _ [21, 22, 23, 24, 72, 73, 74, 75, 76, 77, 78, 79, 80, 81, 82, 83, 84, 85, 86, 87, 88, 89, 90, 91, 92, 93, 94, 95, 96, 97, 98, 99, 100, 101, 102, 103, 104, 105, 106, 107, 108, 109, 110, 111, 112, 113, 114, 115, 116, 117, 118, 119, 120, 121, 122, 123, 124, 125, 126, 127] (by decide +kernel) (by decide +kernel)
set_option maxRecDepth 20000 in
theorem gX7_relation_X7_puts : GoodIn wsX7_relation (wsV RX7 235 RX7 yX7_puts wsX7_puts) := goodIn_app (goodIn_of _ (by decide +kernel)) ggX7_relation_X7_puts
set_option maxRecDepth 20000 in
theorem ggX7_readSum_X7_product : GoodIn wsX7_readSum wsX7_product := goodIn_r _ [7, 1, 2, 8, 9, 10, 6, 11, 12, 13, 14, 15, 16, 17, 18, 19, 20, 21, 22, 23, 24, 25, 26, 27, 28, 29, 30, 31, 32, 33, 34, 35, 36, 37, 38, 39, 40, 41, 42, 43, 44, 45, 46, 47, 48, 49, 50, 51, 52, 53, 54, 55, 56, 57, 58, 59, 60, 61, 62, 63, 64, 65, 66, 67, 68, 69, 70, 71, 72, 73, 74, 75, 76, 77, 78, 79, 80, 81, 82, 83, 84, 85, 86, 87, 88, 89, 90, 91, 92, 93, 94, 95, 96, 97, 98, 99, 100, 101, 102, 103, 104, 105, 106, 107, 108, 109, 110, 111, 112, 113, 114, 115, 116, 117, 118, 119, 120, 121, 122, 123] (by decide +kernel) (by decide +kernel)
set_option maxRecDepth 20000 in
theorem gX7_readSum_X7_product : GoodIn wsX7_readSum (wsV RX7 258 RX7 yX7_product wsX7_product) := goodIn_app (goodIn_of _ (by decide +kernel)) ggX7_readSum_X7_product
set_option maxRecDepth 20000 in
theorem ggX7_readSum_X7_advance : GoodIn wsX7_readSum wsX7_advance := goodIn_r _ [24, 25, 26, 27, 28, 2, 29, 30, 13, 12, 31, 32, 6, 33, 34, 35, 36, 37, 38, 39, 40, 41, 42, 43, 44, 45, 46, 47, 48, 49, 50, 51, 52, 53, 54, 55, 56, 57, 58, 59, 60, 68, 69, 70, 71, 72, 73, 74, 75, 76, 77, 78, 79, 80, 81, 82, 83, 84, 85, 86, 87, 88, 89, 90, 91, 92, 93, 94, 95, 96, 97, 98, 99, 100, 101, 102, 103, 104, 105, 106, 107, 108, 109, 110, 111, 112, 113, 114, 115, 116, 117, 118, 119, 120, 121, 122, 123] (by decide +kernel) (by decide +kernel)
set_option maxRecDepth 20000 in
theorem gX7_readSum_X7_advance : GoodIn wsX7_readSum (wsV RX7 214 RX7 yX7_advance wsX7_advance) := goodIn_app (goodIn_of _ (by decide +kernel)) ggX7_readSum_X7_advance
set_option maxRecDepth 20000 in
theorem ggX7_readSum_X7_puts : GoodIn wsX7_readSum wsX7_puts := goodIn_r _ [17, 18, 19, 20, 68, 69, 70, 71, 72, 73, 74, 75, 76, 77, 78, 79, 80, 81, 82, 83, 84, 85, 86, 87, 88, 89, 90, 91, 92, 93, 94, 95, 96, 97, 98, 99, 100, 101, 102, 103, 104, 105, 106, 107, 108, 109, 110, 111, 112, 113, 114, 115, 116, 117, 118, 119, 120, 121, 122, 123] (by decide +kernel) (by decide +kernel)
set_option maxRecDepth 20000 in
theorem gX7_readSum_X7_puts : GoodIn wsX7_readSum (wsV RX7 235 RX7 yX7_puts wsX7_puts) := goodIn_app (goodIn_of _ (by decide +kernel)) ggX7_readSum_X7_puts
set_option maxRecDepth 20000 in
theorem ggX7_product_X7_one : GoodIn wsX7_product wsX7_one := goodIn_r _ [7, 1, 2, 8, 9, 10, 11, 12, 6, 13, 14, 15, 16, 17, 18, 19, 20, 21, 22, 23, 24, 25, 26, 27, 28, 29, 30, 31, 32, 33, 34, 35, 36, 37, 38, 39, 40, 41, 42, 43, 44, 45, 46, 47, 48, 49, 50, 51, 52, 53, 54, 55, 56, 57, 58, 59, 60, 61, 62, 63, 64, 65, 66, 67, 68, 69, 70, 71, 72, 73, 74, 75, 76, 77, 78, 79, 80, 81, 82, 83, 84, 85, 86, 87, 88, 89, 90, 91, 92, 93, 94, 95, 96, 97, 98, 99, 100, 101, 102, 103, 104, 105, 106, 107, 108, 109, 110, 111, 112, 113, 114, 115, 116, 117, 118, 119] (by decide +kernel) (by decide +kernel)
set_option maxRecDepth 20000 in
theorem gX7_product_X7_one : GoodIn wsX7_product (wsV RX7 261 RX7 yX7_one wsX7_one) := goodIn_app (goodIn_of _ (by decide +kernel)) ggX7_product_X7_one
set_option maxRecDepth 20000 in
theorem ggX7_product_X7_advance : GoodIn wsX7_product wsX7_advance := goodIn_r _ [20, 21, 22, 23, 24, 2, 25, 26, 9, 8, 27, 28, 6, 29, 30, 31, 32, 33, 34, 35, 36, 37, 38, 39, 40, 41, 42, 43, 44, 45, 46, 47, 48, 49, 50, 51, 52, 53, 54, 55, 56, 64, 65, 66, 67, 68, 69, 70, 71, 72, 73, 74, 75, 76, 77, 78, 79, 80, 81, 82, 83, 84, 85, 86, 87, 88, 89, 90, 91, 92, 93, 94, 95, 96, 97, 98, 99, 100, 101, 102, 103, 104, 105, 106, 107, 108, 109, 110, 111, 112, 113, 114, 115, 116, 117, 118, 119] (by decide +kernel) (by decide +kernel)
set_option maxRecDepth 20000 in
theorem gX7_product_X7_advance : GoodIn wsX7_product (wsV RX7 214 RX7 yX7_advance wsX7_advance) := goodIn_app (goodIn_of _ (by decide +kernel)) ggX7_product_X7_advance
set_option maxRecDepth 20000 in
theorem ggX7_product_X7_puts : GoodIn wsX7_product wsX7_puts := goodIn_r _ [13, 14, 15, 16, 64, 65, 66, 67, 68, 69, 70, 71, 72, 73, 74, 75, 76, 77, 78, 79, 80, 81, 82, 83, 84, 85, 86, 87, 88, 89, 90, 91, 92, 93, 94, 95, 96, 97, 98, 99, 100, 101, 102, 103, 104, 105, 106, 107, 108, 109, 110, 111, 112, 113, 114, 115, 116, 117, 118, 119] (by decide +kernel) (by decide +kernel)
set_option maxRecDepth 20000 in
theorem gX7_product_X7_puts : GoodIn wsX7_product (wsV RX7 235 RX7 yX7_puts wsX7_puts) := goodIn_app (goodIn_of _ (by decide +kernel)) ggX7_product_X7_puts
set_option maxRecDepth 20000 in
theorem ggX7_one_X7_puts : GoodIn wsX7_one wsX7_puts := goodIn_r _ [9, 10, 11, 12, 60, 61, 62, 63, 64, 65, 66, 67, 68, 69, 70, 71, 72, 73, 74, 75, 76, 77, 78, 79, 80, 81, 82, 83, 84, 85, 86, 87, 88, 89, 90, 91, 92, 93, 94, 95, 96, 97, 98, 99, 100, 101, 102, 103, 104, 105, 106, 107, 108, 109, 110, 111, 112, 113, 114, 115] (by decide +kernel) (by decide +kernel)
set_option maxRecDepth 20000 in
theorem gX7_one_X7_puts : GoodIn wsX7_one (wsV RX7 235 RX7 yX7_puts wsX7_puts) := goodIn_app (goodIn_of _ (by decide +kernel)) ggX7_one_X7_puts
set_option maxRecDepth 20000 in
theorem ggX7_one_X7_advance : GoodIn wsX7_one wsX7_advance := goodIn_r _ [16, 17, 18, 19, 20, 2, 21, 22, 4, 3, 23, 24, 8, 25, 26, 27, 28, 29, 30, 31, 32, 33, 34, 35, 36, 37, 38, 39, 40, 41, 42, 43, 44, 45, 46, 47, 48, 49, 50, 51, 52, 60, 61, 62, 63, 64, 65, 66, 67, 68, 69, 70, 71, 72, 73, 74, 75, 76, 77, 78, 79, 80, 81, 82, 83, 84, 85, 86, 87, 88, 89, 90, 91, 92, 93, 94, 95, 96, 97, 98, 99, 100, 101, 102, 103, 104, 105, 106, 107, 108, 109, 110, 111, 112, 113, 114, 115] (by decide +kernel) (by decide +kernel)
set_option maxRecDepth 20000 in
theorem gX7_one_X7_advance : GoodIn wsX7_one (wsV RX7 214 RX7 yX7_advance wsX7_advance) := goodIn_app (goodIn_of _ (by decide +kernel)) ggX7_one_X7_advance
set_option maxRecDepth 20000 in
theorem ggX7_one_X7_in : GoodIn wsX7_one wsX7_in := goodIn_r _ [55] (by decide +kernel) (by decide +kernel)
set_option maxRecDepth 20000 in
theorem gX7_one_X7_in : GoodIn wsX7_one (va_wsS RX7 132 yX7_in wsX7_in) := goodIn_app (goodIn_of _ (by decide +kernel)) ggX7_one_X7_in
set_option maxRecDepth 20000 in
theorem ggX7_one_X7_wrong : GoodIn wsX7_one wsX7_wrong := goodIn_r _ [59, 1, 20, 60, 61, 62, 63, 64, 65, 66, 67, 68, 69, 70, 71, 72, 73, 74, 75, 76, 77, 78, 79, 80, 81, 82, 83, 84, 85, 86, 87, 88, 89, 90, 91, 92, 93, 94, 95, 96, 97, 98, 99, 100, 101, 102, 103, 104, 105, 106, 107, 108, 109, 110, 111, 112, 113, 114, 115] (by decide +kernel) (by decide +kernel)
set_option maxRecDepth 20000 in
theorem gX7_one_X7_wrong : GoodIn wsX7_one (wsV RX7 211 RX7 yX7_wrong wsX7_wrong) := goodIn_app (goodIn_of _ (by decide +kernel)) ggX7_one_X7_wrong
set_option maxRecDepth 20000 in
theorem ggX7_isText_X7_in : GoodIn wsX7_isText wsX7_in := goodIn_r _ [5] (by decide +kernel) (by decide +kernel)
set_option maxRecDepth 20000 in
theorem gX7_isText_X7_in : GoodIn wsX7_isText (va_wsS RX7 132 yX7_in wsX7_in) := goodIn_app (goodIn_of _ (by decide +kernel)) ggX7_isText_X7_in
set_option maxRecDepth 20000 in
theorem ggX7_statements_X7_isText : GoodIn wsX7_statements wsX7_isText := goodIn_r _ [6, 7, 8, 9, 5, 10, 11, 12, 13, 14, 15, 16, 17, 18, 19, 20, 21, 22, 23, 24, 25, 26, 27, 28, 29, 30, 31, 32, 33, 34, 35, 36, 37, 38, 39, 40, 41, 42, 43, 44, 45, 46, 47, 48, 49, 50, 51, 52, 53, 54, 55, 56, 57, 58, 59, 60, 61, 62, 63, 64, 65, 66] (by decide +kernel) (by decide +kernel)
set_option maxRecDepth 20000 in
theorem gX7_statements_X7_isText : GoodIn wsX7_statements (wsV RX7 264 RX7 yX7_isText wsX7_isText) := goodIn_app (goodIn_of _ (by decide +kernel)) ggX7_statements_X7_isText
set_option maxRecDepth 20000 in
theorem ggX7_force_X7_isText : GoodIn wsX7_force wsX7_isText := goodIn_r _ [9, 10, 11, 12, 8, 13, 14, 15, 16, 17, 18, 19, 20, 21, 22, 23, 24, 25, 26, 27, 28, 29, 30, 31, 32, 33, 34, 35, 36, 37, 38, 39, 40, 41, 42, 43, 44, 45, 46, 47, 48, 49, 50, 51, 52, 53, 54, 55, 56, 57, 58, 59, 60, 61, 62, 63, 64, 65, 66, 67, 68, 69] (by decide +kernel) (by decide +kernel)
set_option maxRecDepth 20000 in
theorem gX7_force_X7_isText : GoodIn wsX7_force (wsV RX7 264 RX7 yX7_isText wsX7_isText) := goodIn_app (goodIn_of _ (by decide +kernel)) ggX7_force_X7_isText
set_option maxRecDepth 20000 in
theorem ggX7_force_X7_in : GoodIn wsX7_force wsX7_in := goodIn_r _ [13] (by decide +kernel) (by decide +kernel)
set_option maxRecDepth 20000 in
theorem gX7_force_X7_in : GoodIn wsX7_force (va_wsS RX7 132 yX7_in wsX7_in) := goodIn_app (goodIn_of _ (by decide +kernel)) ggX7_force_X7_in
set_option maxRecDepth 20000 in
theorem ggX7_inForce_X7_in : GoodIn wsX7_inForce wsX7_in := goodIn_r _ [4] (by decide +kernel) (by decide +kernel)
set_option maxRecDepth 20000 in
theorem gX7_inForce_X7_in : GoodIn wsX7_inForce (va_wsS RX7 132 yX7_in wsX7_in) := goodIn_app (goodIn_of _ (by decide +kernel)) ggX7_inForce_X7_in
set_option maxRecDepth 20000 in
theorem ggX7_inForce_X7_forceAt : GoodIn wsX7_inForce wsX7_forceAt := goodIn_r _ [8, 9, 10, 11, 12, 13, 14, 15, 16, 17, 18, 19, 20, 21, 22, 23, 24, 25, 26, 27, 28, 29, 30, 31, 32, 33, 34, 35, 36, 37, 38, 39, 40, 41, 42, 43, 44, 45, 46, 47, 48, 49, 50, 51, 52, 53, 54, 55, 56, 57, 58, 59, 60, 61, 62, 63, 64, 65, 66, 67] (by decide +kernel) (by decide +kernel)
set_option maxRecDepth 20000 in
theorem gX7_inForce_X7_forceAt : GoodIn wsX7_inForce (wsV RX7 273 RX7 yX7_forceAt wsX7_forceAt) := goodIn_app (goodIn_of _ (by decide +kernel)) ggX7_inForce_X7_forceAt
set_option maxRecDepth 20000 in
theorem ggX7_isPerson_X7_in : GoodIn wsX7_isPerson wsX7_in := goodIn_r _ [4] (by decide +kernel) (by decide +kernel)
set_option maxRecDepth 20000 in
theorem gX7_isPerson_X7_in : GoodIn wsX7_isPerson (va_wsS RX7 132 yX7_in wsX7_in) := goodIn_app (goodIn_of _ (by decide +kernel)) ggX7_isPerson_X7_in
set_option maxRecDepth 20000 in
theorem ggX7_isDebt_X7_in : GoodIn wsX7_isDebt wsX7_in := goodIn_r _ [5] (by decide +kernel) (by decide +kernel)
set_option maxRecDepth 20000 in
theorem gX7_isDebt_X7_in : GoodIn wsX7_isDebt (va_wsS RX7 132 yX7_in wsX7_in) := goodIn_app (goodIn_of _ (by decide +kernel)) ggX7_isDebt_X7_in
set_option maxRecDepth 20000 in
theorem ggX7_shire_X7_in : GoodIn wsX7_shire wsX7_in := goodIn_r _ [7] (by decide +kernel) (by decide +kernel)
set_option maxRecDepth 20000 in
theorem gX7_shire_X7_in : GoodIn wsX7_shire (va_wsS RX7 132 yX7_in wsX7_in) := goodIn_app (goodIn_of _ (by decide +kernel)) ggX7_shire_X7_in
set_option maxRecDepth 20000 in
theorem ggX7_shire_X7_isPerson : GoodIn wsX7_shire wsX7_isPerson := goodIn_r _ [10, 4, 5, 6, 7] (by decide +kernel) (by decide +kernel)
set_option maxRecDepth 20000 in
theorem gX7_shire_X7_isPerson : GoodIn wsX7_shire (va_wsS RX7 281 yX7_isPerson wsX7_isPerson) := goodIn_app (goodIn_of _ (by decide +kernel)) ggX7_shire_X7_isPerson
set_option maxRecDepth 20000 in
theorem ggX7_debt_X7_isPerson : GoodIn wsX7_debt wsX7_isPerson := goodIn_r _ [6, 7, 8, 5, 9] (by decide +kernel) (by decide +kernel)
set_option maxRecDepth 20000 in
theorem gX7_debt_X7_isPerson : GoodIn wsX7_debt (va_wsS RX7 281 yX7_isPerson wsX7_isPerson) := goodIn_app (goodIn_of _ (by decide +kernel)) ggX7_debt_X7_isPerson
set_option maxRecDepth 20000 in
theorem ggX7_debt_X7_in : GoodIn wsX7_debt wsX7_in := goodIn_r _ [9] (by decide +kernel) (by decide +kernel)
set_option maxRecDepth 20000 in
theorem gX7_debt_X7_in : GoodIn wsX7_debt (va_wsS RX7 132 yX7_in wsX7_in) := goodIn_app (goodIn_of _ (by decide +kernel)) ggX7_debt_X7_in
set_option maxRecDepth 20000 in
theorem ggX7_debt_X7_owes : GoodIn wsX7_debt wsX7_owes := goodIn_r _ [13, 2, 14, 15, 16, 17, 18, 19, 20, 21, 22, 23, 24, 25, 26, 27, 28, 29, 30, 31, 32, 33, 34, 35, 36, 37, 38, 39, 40, 41, 42, 43, 44, 45, 46, 47, 48, 49, 50, 51, 52, 53, 54, 55, 56, 57, 58, 59, 60, 61, 62, 63, 64, 65, 66, 67, 68, 69, 70, 71, 72, 73, 74, 75, 76, 77] (by decide +kernel) (by decide +kernel)
set_option maxRecDepth 20000 in
theorem gX7_debt_X7_owes : GoodIn wsX7_debt (wsV RX7 285 RX7 yX7_owes wsX7_owes) := goodIn_app (goodIn_of _ (by decide +kernel)) ggX7_debt_X7_owes
set_option maxRecDepth 20000 in
theorem ggX7_term_X7_owes : GoodIn wsX7_term wsX7_owes := goodIn_r _ [9, 4, 10, 11, 12, 13, 14, 1, 15, 16, 17, 18, 19, 20, 21, 22, 23, 24, 25, 26, 27, 28, 29, 30, 31, 32, 33, 34, 35, 36, 37, 38, 39, 40, 41, 42, 43, 44, 45, 46, 47, 48, 49, 50, 51, 52, 53, 54, 55, 56, 57, 58, 59, 60, 61, 62, 63, 64, 65, 66, 67, 68, 69, 70, 71, 72] (by decide +kernel) (by decide +kernel)
set_option maxRecDepth 20000 in
theorem gX7_term_X7_owes : GoodIn wsX7_term (wsV RX7 285 RX7 yX7_owes wsX7_owes) := goodIn_app (goodIn_of _ (by decide +kernel)) ggX7_term_X7_owes
set_option maxRecDepth 20000 in
theorem ggX7_worth_X7_allOf : GoodIn wsX7_worth wsX7_allOf := goodIn_r _ [12, 13, 2, 1, 14, 15, 16, 17, 18, 19, 20, 21, 22, 23, 24, 25, 26, 27, 28, 29, 30, 31, 32, 33, 34, 35, 36, 37, 38, 39, 40, 41, 42, 43, 44, 45, 46, 47, 48, 49, 50, 51, 52, 53, 54, 55, 56, 57, 58, 59, 60, 61, 62, 63, 64, 65, 66, 67, 68, 69] (by decide +kernel) (by decide +kernel)
set_option maxRecDepth 20000 in
theorem gX7_worth_X7_allOf : GoodIn wsX7_worth (wsV RX7 289 RX7 yX7_allOf wsX7_allOf) := goodIn_app (goodIn_of _ (by decide +kernel)) ggX7_worth_X7_allOf
set_option maxRecDepth 20000 in
theorem ggX7_holds_X7_worth : GoodIn wsX7_holds wsX7_worth := goodIn_r _ [11, 12, 13, 14, 15, 16, 17, 18, 19, 20, 21, 10, 22, 23, 27, 28, 29, 30, 31, 32, 33, 34, 35, 36, 37, 38, 39, 40, 41, 42, 43, 44, 45, 46, 47, 48, 49, 50, 51, 52, 53, 54, 55, 56, 57, 58, 59, 60, 61, 62, 63, 64, 65, 66, 67, 68, 69, 70, 71, 72, 73, 74, 75, 76, 77, 78, 79, 80, 81, 82] (by decide +kernel) (by decide +kernel)
set_option maxRecDepth 20000 in
theorem gX7_holds_X7_worth : GoodIn wsX7_holds (wsV RX7 296 RX7 yX7_worth wsX7_worth) := goodIn_app (goodIn_of _ (by decide +kernel)) ggX7_holds_X7_worth
set_option maxRecDepth 20000 in
theorem ggX7_holds_X7_both : GoodIn wsX7_holds wsX7_both := goodIn_r _ [26] (by decide +kernel) (by decide +kernel)
set_option maxRecDepth 20000 in
theorem gX7_holds_X7_both : GoodIn wsX7_holds (va_wsS RX7 300 yX7_both wsX7_both) := goodIn_app (goodIn_of _ (by decide +kernel)) ggX7_holds_X7_both
set_option maxRecDepth 20000 in
theorem ggX7_first_X7_holds : GoodIn wsX7_first wsX7_holds := goodIn_r _ [6, 7, 8, 9, 10, 11, 12, 13, 14, 15, 5, 16, 17, 18, 19, 20, 21, 22, 23, 24, 25, 26, 27, 28, 29, 30, 31, 32, 33, 34, 35, 36, 37, 38, 39, 40, 41, 42, 43, 44, 45, 46, 47, 48, 49, 50, 51, 52, 53, 54, 55, 56, 57, 58, 59, 60, 61, 62, 63, 64, 65, 66, 67, 68, 69, 70, 71, 72, 73, 74, 75, 76, 77, 78, 79, 80, 81, 82, 83, 84, 85, 86, 87] (by decide +kernel) (by decide +kernel)
set_option maxRecDepth 20000 in
theorem gX7_first_X7_holds : GoodIn wsX7_first (wsV RX7 304 RX7 yX7_holds wsX7_holds) := goodIn_app (goodIn_of _ (by decide +kernel)) ggX7_first_X7_holds
set_option maxRecDepth 20000 in
theorem ggX7_would_X7_isText : GoodIn wsX7_would wsX7_isText := goodIn_r _ [7, 8, 9, 10, 6, 11, 49, 50, 51, 52, 53, 54, 55, 56, 57, 58, 59, 60, 61, 62, 63, 64, 65, 66, 67, 68, 69, 70, 71, 72, 73, 74, 75, 76, 77, 78, 79, 80, 81, 82, 83, 84, 85, 86, 87, 88, 89, 90, 91, 92, 93, 94, 95, 96, 97, 98, 99, 100, 101, 102, 103, 104] (by decide +kernel) (by decide +kernel)
set_option maxRecDepth 20000 in
theorem gX7_would_X7_isText : GoodIn wsX7_would (wsV RX7 264 RX7 yX7_isText wsX7_isText) := goodIn_app (goodIn_of _ (by decide +kernel)) ggX7_would_X7_isText
set_option maxRecDepth 20000 in
theorem ggX7_would_X7_isDebt : GoodIn wsX7_would wsX7_isDebt := goodIn_r _ [15, 16, 9, 10, 6, 11, 49, 50, 51, 52, 53, 54, 55, 56, 57, 58, 59, 60, 61, 62, 63, 64, 65, 66, 67, 68, 69, 70, 71, 72, 73, 74, 75, 76, 77, 78, 79, 80, 81, 82, 83, 84, 85, 86, 87, 88, 89, 90, 91, 92, 93, 94, 95, 96, 97, 98, 99, 100, 101, 102, 103, 104] (by decide +kernel) (by decide +kernel)
set_option maxRecDepth 20000 in
theorem gX7_would_X7_isDebt : GoodIn wsX7_would (wsV RX7 308 RX7 yX7_isDebt wsX7_isDebt) := goodIn_app (goodIn_of _ (by decide +kernel)) ggX7_would_X7_isDebt
set_option maxRecDepth 20000 in
theorem ggX7_would_X7_in : GoodIn wsX7_would wsX7_in := goodIn_r _ [11] (by decide +kernel) (by decide +kernel)
set_option maxRecDepth 20000 in
theorem gX7_would_X7_in : GoodIn wsX7_would (va_wsS RX7 132 yX7_in wsX7_in) := goodIn_app (goodIn_of _ (by decide +kernel)) ggX7_would_X7_in
set_option maxRecDepth 20000 in
theorem ggX7_would_X7_first : GoodIn wsX7_would wsX7_first := goodIn_r _ [20, 21, 22, 23, 24, 6, 25, 26, 27, 28, 29, 30, 31, 32, 33, 34, 35, 1, 36, 37, 38, 39, 40, 41, 42, 43, 44, 45, 16, 46, 47, 48, 49, 50, 51, 52, 53, 54, 55, 56, 57, 58, 59, 60, 61, 62, 63, 64, 65, 66, 67, 68, 69, 70, 71, 72, 73, 74, 75, 76, 77, 78, 79, 80, 81, 82, 83, 84, 85, 86, 87, 88, 89, 90, 91, 92, 93, 94, 95, 96, 97, 98, 99, 100, 101, 102, 103, 104] (by decide +kernel) (by decide +kernel)
set_option maxRecDepth 20000 in
theorem gX7_would_X7_first : GoodIn wsX7_would (wsV RX7 312 RX7 yX7_first wsX7_first) := goodIn_app (goodIn_of _ (by decide +kernel)) ggX7_would_X7_first
set_option maxRecDepth 20000 in
theorem ggX7_come_X7_isPerson : GoodIn wsX7_come wsX7_isPerson := goodIn_r _ [15, 16, 17, 14, 18] (by decide +kernel) (by decide +kernel)
set_option maxRecDepth 20000 in
theorem gX7_come_X7_isPerson : GoodIn wsX7_come (va_wsS RX7 281 yX7_isPerson wsX7_isPerson) := goodIn_app (goodIn_of _ (by decide +kernel)) ggX7_come_X7_isPerson
set_option maxRecDepth 20000 in
theorem ggX7_come_X7_in : GoodIn wsX7_come wsX7_in := goodIn_r _ [18] (by decide +kernel) (by decide +kernel)
set_option maxRecDepth 20000 in
theorem gX7_come_X7_in : GoodIn wsX7_come (va_wsS RX7 132 yX7_in wsX7_in) := goodIn_app (goodIn_of _ (by decide +kernel)) ggX7_come_X7_in
set_option maxRecDepth 20000 in
theorem ggX7_come_X7_owedOf : GoodIn wsX7_come wsX7_owedOf := goodIn_r _ [22, 8, 10, 11, 79, 80, 81, 82, 83, 84, 85, 86, 87, 88, 89, 90, 91, 92, 93, 94, 95, 96, 97, 98, 99, 100, 101, 102, 103, 104, 105, 106, 107, 108, 109, 110, 111, 112, 113, 114, 115, 116, 117, 118, 119, 120, 121, 122, 123, 124, 125, 126, 127, 128, 129, 130, 131, 132, 133, 134] (by decide +kernel) (by decide +kernel)
set_option maxRecDepth 20000 in
theorem gX7_come_X7_owedOf : GoodIn wsX7_come (wsV RX7 316 RX7 yX7_owedOf wsX7_owedOf) := goodIn_app (goodIn_of _ (by decide +kernel)) ggX7_come_X7_owedOf
set_option maxRecDepth 20000 in
theorem ggX7_come_X7_forceAt : GoodIn wsX7_come wsX7_forceAt := goodIn_r _ [26, 27, 28, 29, 79, 80, 81, 82, 83, 84, 85, 86, 87, 88, 89, 90, 91, 92, 93, 94, 95, 96, 97, 98, 99, 100, 101, 102, 103, 104, 105, 106, 107, 108, 109, 110, 111, 112, 113, 114, 115, 116, 117, 118, 119, 120, 121, 122, 123, 124, 125, 126, 127, 128, 129, 130, 131, 132, 133, 134] (by decide +kernel) (by decide +kernel)
set_option maxRecDepth 20000 in
theorem gX7_come_X7_forceAt : GoodIn wsX7_come (wsV RX7 273 RX7 yX7_forceAt wsX7_forceAt) := goodIn_app (goodIn_of _ (by decide +kernel)) ggX7_come_X7_forceAt
set_option maxRecDepth 20000 in
theorem ggX7_come_X7_ask : GoodIn wsX7_come wsX7_ask := goodIn_r _ [33, 34, 11, 35, 36, 4, 37, 3, 38, 39, 40, 41, 42, 43, 44, 5, 45, 46, 47, 48, 49, 10, 50, 51, 52, 53, 14, 54, 55, 56, 57, 58, 59, 60, 61, 62, 63, 64, 65, 66, 67, 68, 69, 70, 71, 72, 73, 74, 75, 8, 76, 77, 78, 79, 80, 81, 82, 83, 84, 85, 86, 87, 88, 89, 90, 91, 92, 93, 94, 95, 96, 97, 98, 99, 100, 101, 102, 103, 104, 105, 106, 107, 108, 109, 110, 111, 112, 113, 114, 115, 116, 117, 118, 119, 120, 121, 122, 123, 124, 125, 126, 127, 128, 129, 130, 131, 132, 133, 134] (by decide +kernel) (by decide +kernel)
set_option maxRecDepth 20000 in
theorem gX7_come_X7_ask : GoodIn wsX7_come (wsV RX7 329 RX7 yX7_ask wsX7_ask) := goodIn_app (goodIn_of _ (by decide +kernel)) ggX7_come_X7_ask
set_option maxRecDepth 20000 in
theorem ggX7_ask_X7_first : GoodIn wsX7_ask wsX7_first := goodIn_r _ [27, 28, 29, 30, 31, 26, 32, 33, 34, 35, 36, 37, 38, 39, 40, 41, 42, 2, 21, 7, 43, 44, 22, 20, 45, 46, 47, 48, 49, 50, 51, 52, 53, 54, 55, 56, 57, 58, 59, 60, 61, 62, 63, 64, 65, 66, 67, 68, 69, 70, 71, 72, 73, 74, 75, 76, 77, 78, 79, 80, 81, 82, 83, 84, 85, 86, 87, 88, 89, 90, 91, 92, 93, 94, 95, 96, 97, 98, 99, 100, 101, 102, 103, 104, 105, 106, 107, 108] (by decide +kernel) (by decide +kernel)
set_option maxRecDepth 20000 in
theorem gX7_ask_X7_first : GoodIn wsX7_ask (wsV RX7 312 RX7 yX7_first wsX7_first) := goodIn_app (goodIn_of _ (by decide +kernel)) ggX7_ask_X7_first
set_option maxRecDepth 20000 in
theorem ggX7_free_X7_isPerson : GoodIn wsX7_free wsX7_isPerson := goodIn_r _ [5, 6, 7, 4, 8] (by decide +kernel) (by decide +kernel)
set_option maxRecDepth 20000 in
theorem gX7_free_X7_isPerson : GoodIn wsX7_free (va_wsS RX7 281 yX7_isPerson wsX7_isPerson) := goodIn_app (goodIn_of _ (by decide +kernel)) ggX7_free_X7_isPerson
set_option maxRecDepth 20000 in
theorem ggX7_heir_X7_isPerson : GoodIn wsX7_heir wsX7_isPerson := goodIn_r _ [9, 10, 11, 8, 12] (by decide +kernel) (by decide +kernel)
set_option maxRecDepth 20000 in
theorem gX7_heir_X7_isPerson : GoodIn wsX7_heir (va_wsS RX7 281 yX7_isPerson wsX7_isPerson) := goodIn_app (goodIn_of _ (by decide +kernel)) ggX7_heir_X7_isPerson
set_option maxRecDepth 20000 in
theorem ggX7_about_X7_isDebt : GoodIn wsX7_about wsX7_isDebt := goodIn_r _ [12, 13, 14, 15, 11, 16, 17, 18, 19, 20, 21, 22, 23, 24, 25, 26, 27, 28, 29, 30, 31, 32, 33, 34, 35, 36, 37, 38, 39, 40, 41, 42, 43, 44, 45, 46, 47, 48, 49, 50, 51, 52, 53, 54, 55, 56, 57, 58, 59, 60, 61, 62, 63, 64, 65, 66, 67, 68, 69, 70, 71, 72] (by decide +kernel) (by decide +kernel)
set_option maxRecDepth 20000 in
theorem gX7_about_X7_isDebt : GoodIn wsX7_about (wsV RX7 308 RX7 yX7_isDebt wsX7_isDebt) := goodIn_app (goodIn_of _ (by decide +kernel)) ggX7_about_X7_isDebt
set_option maxRecDepth 20000 in
theorem ggX7_owe_X7_isPerson : GoodIn wsX7_owe wsX7_isPerson := goodIn_r _ [9, 10, 11, 8, 12] (by decide +kernel) (by decide +kernel)
set_option maxRecDepth 20000 in
theorem gX7_owe_X7_isPerson : GoodIn wsX7_owe (va_wsS RX7 281 yX7_isPerson wsX7_isPerson) := goodIn_app (goodIn_of _ (by decide +kernel)) ggX7_owe_X7_isPerson
set_option maxRecDepth 20000 in
theorem ggX7_owe_X7_allOf : GoodIn wsX7_owe wsX7_allOf := goodIn_r _ [16, 17, 18, 19, 24, 25, 26, 27, 28, 29, 30, 31, 32, 33, 34, 35, 36, 37, 38, 39, 40, 41, 42, 43, 44, 45, 46, 47, 48, 49, 50, 51, 52, 53, 54, 55, 56, 57, 58, 59, 60, 61, 62, 63, 64, 65, 66, 67, 68, 69, 70, 71, 72, 73, 74, 75, 76, 77, 78, 79] (by decide +kernel) (by decide +kernel)
set_option maxRecDepth 20000 in
theorem gX7_owe_X7_allOf : GoodIn wsX7_owe (wsV RX7 289 RX7 yX7_allOf wsX7_allOf) := goodIn_app (goodIn_of _ (by decide +kernel)) ggX7_owe_X7_allOf
set_option maxRecDepth 20000 in
theorem ggX7_owe_X7_owedOf : GoodIn wsX7_owe wsX7_owedOf := goodIn_r _ [23, 17, 18, 19, 24, 25, 26, 27, 28, 29, 30, 31, 32, 33, 34, 35, 36, 37, 38, 39, 40, 41, 42, 43, 44, 45, 46, 47, 48, 49, 50, 51, 52, 53, 54, 55, 56, 57, 58, 59, 60, 61, 62, 63, 64, 65, 66, 67, 68, 69, 70, 71, 72, 73, 74, 75, 76, 77, 78, 79] (by decide +kernel) (by decide +kernel)
set_option maxRecDepth 20000 in
theorem gX7_owe_X7_owedOf : GoodIn wsX7_owe (wsV RX7 316 RX7 yX7_owedOf wsX7_owedOf) := goodIn_app (goodIn_of _ (by decide +kernel)) ggX7_owe_X7_owedOf
set_option maxRecDepth 20000 in
theorem ggX7_line_X7_in : GoodIn wsX7_line wsX7_in := goodIn_r _ [13] (by decide +kernel) (by decide +kernel)
set_option maxRecDepth 20000 in
theorem gX7_line_X7_in : GoodIn wsX7_line (va_wsS RX7 132 yX7_in wsX7_in) := goodIn_app (goodIn_of _ (by decide +kernel)) ggX7_line_X7_in
set_option maxRecDepth 20000 in
theorem ggX7_as_X7_isDebt : GoodIn wsX7_as wsX7_isDebt := goodIn_r _ [12, 13, 14, 15, 11, 16, 17, 18, 19, 20, 21, 22, 23, 24, 25, 26, 27, 28, 29, 30, 31, 32, 33, 34, 35, 36, 37, 38, 39, 40, 41, 42, 43, 44, 45, 46, 47, 48, 49, 50, 51, 52, 53, 54, 55, 56, 57, 58, 59, 60, 61, 62, 63, 64, 65, 66, 67, 68, 69, 70, 71, 72] (by decide +kernel) (by decide +kernel)
set_option maxRecDepth 20000 in
theorem gX7_as_X7_isDebt : GoodIn wsX7_as (wsV RX7 308 RX7 yX7_isDebt wsX7_isDebt) := goodIn_app (goodIn_of _ (by decide +kernel)) ggX7_as_X7_isDebt
set_option maxRecDepth 20000 in
theorem ggX7_as_X7_in : GoodIn wsX7_as wsX7_in := goodIn_r _ [16] (by decide +kernel) (by decide +kernel)
set_option maxRecDepth 20000 in
theorem gX7_as_X7_in : GoodIn wsX7_as (va_wsS RX7 132 yX7_in wsX7_in) := goodIn_app (goodIn_of _ (by decide +kernel)) ggX7_as_X7_in
set_option maxRecDepth 20000 in
theorem ggX7_notch_X7_worthOf : GoodIn wsX7_notch wsX7_worthOf := goodIn_r _ [5, 1] (by decide +kernel) (by decide +kernel)
set_option maxRecDepth 20000 in
theorem gX7_notch_X7_worthOf : GoodIn wsX7_notch (va_wsS RX7 341 yX7_worthOf wsX7_worthOf) := goodIn_app (goodIn_of _ (by decide +kernel)) ggX7_notch_X7_worthOf
set_option maxRecDepth 20000 in
theorem ggX7_stick_X7_in : GoodIn wsX7_stick wsX7_in := goodIn_r _ [6] (by decide +kernel) (by decide +kernel)
set_option maxRecDepth 20000 in
theorem gX7_stick_X7_in : GoodIn wsX7_stick (va_wsS RX7 132 yX7_in wsX7_in) := goodIn_app (goodIn_of _ (by decide +kernel)) ggX7_stick_X7_in
set_option maxRecDepth 20000 in
theorem ggX7_stick_X7_notch : GoodIn wsX7_stick wsX7_notch := goodIn_r _ [9, 10, 11, 12, 5, 13] (by decide +kernel) (by decide +kernel)
set_option maxRecDepth 20000 in
theorem gX7_stick_X7_notch : GoodIn wsX7_stick (va_wsS RX7 344 yX7_notch wsX7_notch) := goodIn_app (goodIn_of _ (by decide +kernel)) ggX7_stick_X7_notch
set_option maxRecDepth 20000 in
theorem ggX7_fits_X7_in : GoodIn wsX7_fits wsX7_in := goodIn_r _ [7] (by decide +kernel) (by decide +kernel)
set_option maxRecDepth 20000 in
theorem gX7_fits_X7_in : GoodIn wsX7_fits (va_wsS RX7 132 yX7_in wsX7_in) := goodIn_app (goodIn_of _ (by decide +kernel)) ggX7_fits_X7_in
set_option maxRecDepth 20000 in
theorem ggX7_fits_X7_notch : GoodIn wsX7_fits wsX7_notch := goodIn_r _ [10, 11, 12, 13, 6, 14] (by decide +kernel) (by decide +kernel)
set_option maxRecDepth 20000 in
theorem gX7_fits_X7_notch : GoodIn wsX7_fits (va_wsS RX7 344 yX7_notch wsX7_notch) := goodIn_app (goodIn_of _ (by decide +kernel)) ggX7_fits_X7_notch
set_option maxRecDepth 20000 in
theorem ggX7_next_X7_worthOf : GoodIn wsX7_next wsX7_worthOf := goodIn_r _ [4, 5] (by decide +kernel) (by decide +kernel)
set_option maxRecDepth 20000 in
theorem gX7_next_X7_worthOf : GoodIn wsX7_next (va_wsS RX7 341 yX7_worthOf wsX7_worthOf) := goodIn_app (goodIn_of _ (by decide +kernel)) ggX7_next_X7_worthOf
set_option maxRecDepth 20000 in
theorem ggX7_lies_X7_worthOf : GoodIn wsX7_lies wsX7_worthOf := goodIn_r _ [5, 6] (by decide +kernel) (by decide +kernel)
set_option maxRecDepth 20000 in
theorem gX7_lies_X7_worthOf : GoodIn wsX7_lies (va_wsS RX7 341 yX7_worthOf wsX7_worthOf) := goodIn_app (goodIn_of _ (by decide +kernel)) ggX7_lies_X7_worthOf
set_option maxRecDepth 20000 in
theorem ggX7_lay_X7_in : GoodIn wsX7_lay wsX7_in := goodIn_r _ [6] (by decide +kernel) (by decide +kernel)
set_option maxRecDepth 20000 in
theorem gX7_lay_X7_in : GoodIn wsX7_lay (va_wsS RX7 132 yX7_in wsX7_in) := goodIn_app (goodIn_of _ (by decide +kernel)) ggX7_lay_X7_in
set_option maxRecDepth 20000 in
theorem ggX7_lay_X7_notch : GoodIn wsX7_lay wsX7_notch := goodIn_r _ [9, 10, 11, 12, 5, 13] (by decide +kernel) (by decide +kernel)
set_option maxRecDepth 20000 in
theorem gX7_lay_X7_notch : GoodIn wsX7_lay (va_wsS RX7 344 yX7_notch wsX7_notch) := goodIn_app (goodIn_of _ (by decide +kernel)) ggX7_lay_X7_notch
set_option maxRecDepth 20000 in
theorem ggX7_lay_X7_next : GoodIn wsX7_lay wsX7_next := goodIn_r _ [16, 11, 12, 5, 13, 10] (by decide +kernel) (by decide +kernel)
set_option maxRecDepth 20000 in
theorem gX7_lay_X7_next : GoodIn wsX7_lay (va_wsS RX7 348 yX7_next wsX7_next) := goodIn_app (goodIn_of _ (by decide +kernel)) ggX7_lay_X7_next
set_option maxRecDepth 20000 in
theorem ggX7_take_X7_in : GoodIn wsX7_take wsX7_in := goodIn_r _ [6] (by decide +kernel) (by decide +kernel)
set_option maxRecDepth 20000 in
theorem gX7_take_X7_in : GoodIn wsX7_take (va_wsS RX7 132 yX7_in wsX7_in) := goodIn_app (goodIn_of _ (by decide +kernel)) ggX7_take_X7_in
set_option maxRecDepth 20000 in
theorem ggX7_take_X7_lies : GoodIn wsX7_take wsX7_lies := goodIn_r _ [10, 2, 11, 12, 5, 13, 14, 21, 22, 23, 24, 25, 26, 27, 28, 29, 30, 31, 32, 33, 34, 35, 36, 37, 38, 39, 40, 41, 42, 43, 44, 45, 46, 47, 48, 49, 50, 51, 52, 53, 54, 55, 56, 57, 58, 59, 60, 61, 62, 63, 64, 65, 66, 67, 68, 69, 70, 71, 72, 73, 74, 75, 76] (by decide +kernel) (by decide +kernel)
set_option maxRecDepth 20000 in
theorem gX7_take_X7_lies : GoodIn wsX7_take (wsV RX7 351 RX7 yX7_lies wsX7_lies) := goodIn_app (goodIn_of _ (by decide +kernel)) ggX7_take_X7_lies
set_option maxRecDepth 20000 in
theorem ggX7_take_X7_notch : GoodIn wsX7_take wsX7_notch := goodIn_r _ [17, 14, 11, 12, 5, 13] (by decide +kernel) (by decide +kernel)
set_option maxRecDepth 20000 in
theorem gX7_take_X7_notch : GoodIn wsX7_take (va_wsS RX7 344 yX7_notch wsX7_notch) := goodIn_app (goodIn_of _ (by decide +kernel)) ggX7_take_X7_notch
set_option maxRecDepth 20000 in
theorem ggX7_take_X7_next : GoodIn wsX7_take wsX7_next := goodIn_r _ [20, 11, 12, 5, 13, 14] (by decide +kernel) (by decide +kernel)
set_option maxRecDepth 20000 in
theorem gX7_take_X7_next : GoodIn wsX7_take (va_wsS RX7 348 yX7_next wsX7_next) := goodIn_app (goodIn_of _ (by decide +kernel)) ggX7_take_X7_next
set_option maxRecDepth 20000 in
theorem ggX7_cloth_X7_in : GoodIn wsX7_cloth wsX7_in := goodIn_r _ [5] (by decide +kernel) (by decide +kernel)
set_option maxRecDepth 20000 in
theorem gX7_cloth_X7_in : GoodIn wsX7_cloth (va_wsS RX7 132 yX7_in wsX7_in) := goodIn_app (goodIn_of _ (by decide +kernel)) ggX7_cloth_X7_in
set_option maxRecDepth 20000 in
theorem ggX7_sum_X7_lies : GoodIn wsX7_sum wsX7_lies := goodIn_r _ [13, 14, 15, 16, 12, 17, 18, 19, 20, 21, 22, 23, 24, 25, 26, 27, 28, 29, 30, 31, 32, 33, 34, 35, 36, 37, 38, 39, 40, 41, 42, 43, 44, 45, 46, 47, 48, 49, 50, 51, 52, 53, 54, 55, 56, 57, 58, 59, 60, 61, 62, 63, 64, 65, 66, 67, 68, 69, 70, 71, 72, 73, 74] (by decide +kernel) (by decide +kernel)
set_option maxRecDepth 20000 in
theorem gX7_sum_X7_lies : GoodIn wsX7_sum (wsV RX7 351 RX7 yX7_lies wsX7_lies) := goodIn_app (goodIn_of _ (by decide +kernel)) ggX7_sum_X7_lies
