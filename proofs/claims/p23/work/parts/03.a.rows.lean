set_option maxRecDepth 20000 in
theorem DX0_init_b0 : ([(0, .aload_n 0, 1), (1, .invokespecial 3, 3), (4, .aload_n 0, 1), (5, .bipush 6, 2), (7, .newarray .int, 2), (9, .putfield 9, 3), (12, .return_, 1)] : List (Nat × Instr × Nat)).all (fun r => decide (decode cX0_init r.1 = .ok r.2)) = true := by decide +kernel
theorem dX0_init_0 : decode cX0_init 0 = .ok (.aload_n 0, 1) := of_row (r := (0, .aload_n 0, 1)) DX0_init_b0 0 rfl
theorem dX0_init_1 : decode cX0_init 1 = .ok (.invokespecial 3, 3) := of_row (r := (1, .invokespecial 3, 3)) DX0_init_b0 1 rfl
theorem dX0_init_4 : decode cX0_init 4 = .ok (.aload_n 0, 1) := of_row (r := (4, .aload_n 0, 1)) DX0_init_b0 2 rfl
theorem dX0_init_5 : decode cX0_init 5 = .ok (.bipush 6, 2) := of_row (r := (5, .bipush 6, 2)) DX0_init_b0 3 rfl
theorem dX0_init_7 : decode cX0_init 7 = .ok (.newarray .int, 2) := of_row (r := (7, .newarray .int, 2)) DX0_init_b0 4 rfl
theorem dX0_init_9 : decode cX0_init 9 = .ok (.putfield 9, 3) := of_row (r := (9, .putfield 9, 3)) DX0_init_b0 5 rfl
theorem dX0_init_12 : decode cX0_init 12 = .ok (.return_, 1) := of_row (r := (12, .return_, 1)) DX0_init_b0 6 rfl
set_option maxRecDepth 20000 in
theorem DX0_notches_b0 : ([(0, .iload_n 1, 1), (1, .tableswitch 83 0 5 #[39, 44, 52, 61, 69, 78], 39), (40, .iload_n 0, 1), (41, .bipush 12, 2), (43, .irem, 1), (44, .ireturn, 1), (45, .iload_n 0, 1), (46, .bipush 12, 2), (48, .idiv, 1), (49, .bipush 20, 2), (51, .irem, 1), (52, .ireturn, 1), (53, .iload_n 0, 1), (54, .sipush 240, 3), (57, .idiv, 1), (58, .bipush 20, 2), (60, .irem, 1), (61, .ireturn, 1), (62, .iload_n 0, 1), (63, .sipush 4800, 3), (66, .idiv, 1), (67, .iconst 5, 1), (68, .irem, 1), (69, .ireturn, 1), (70, .iload_n 0, 1), (71, .sipush 24000, 3), (74, .idiv, 1), (75, .bipush 10, 2), (77, .irem, 1), (78, .ireturn, 1), (79, .iload_n 0, 1), (80, .ldc 15, 2), (82, .idiv, 1), (83, .ireturn, 1), (84, .iconst 0, 1), (85, .ireturn, 1)] : List (Nat × Instr × Nat)).all (fun r => decide (decode cX0_notches r.1 = .ok r.2)) = true := by decide +kernel
theorem dX0_notches_0 : decode cX0_notches 0 = .ok (.iload_n 1, 1) := of_row (r := (0, .iload_n 1, 1)) DX0_notches_b0 0 rfl
theorem dX0_notches_1 : decode cX0_notches 1 = .ok (.tableswitch 83 0 5 #[39, 44, 52, 61, 69, 78], 39) := of_row (r := (1, .tableswitch 83 0 5 #[39, 44, 52, 61, 69, 78], 39)) DX0_notches_b0 1 rfl
theorem dX0_notches_40 : decode cX0_notches 40 = .ok (.iload_n 0, 1) := of_row (r := (40, .iload_n 0, 1)) DX0_notches_b0 2 rfl
theorem dX0_notches_41 : decode cX0_notches 41 = .ok (.bipush 12, 2) := of_row (r := (41, .bipush 12, 2)) DX0_notches_b0 3 rfl
theorem dX0_notches_43 : decode cX0_notches 43 = .ok (.irem, 1) := of_row (r := (43, .irem, 1)) DX0_notches_b0 4 rfl
theorem dX0_notches_44 : decode cX0_notches 44 = .ok (.ireturn, 1) := of_row (r := (44, .ireturn, 1)) DX0_notches_b0 5 rfl
theorem dX0_notches_45 : decode cX0_notches 45 = .ok (.iload_n 0, 1) := of_row (r := (45, .iload_n 0, 1)) DX0_notches_b0 6 rfl
theorem dX0_notches_46 : decode cX0_notches 46 = .ok (.bipush 12, 2) := of_row (r := (46, .bipush 12, 2)) DX0_notches_b0 7 rfl
theorem dX0_notches_48 : decode cX0_notches 48 = .ok (.idiv, 1) := of_row (r := (48, .idiv, 1)) DX0_notches_b0 8 rfl
theorem dX0_notches_49 : decode cX0_notches 49 = .ok (.bipush 20, 2) := of_row (r := (49, .bipush 20, 2)) DX0_notches_b0 9 rfl
theorem dX0_notches_51 : decode cX0_notches 51 = .ok (.irem, 1) := of_row (r := (51, .irem, 1)) DX0_notches_b0 10 rfl
theorem dX0_notches_52 : decode cX0_notches 52 = .ok (.ireturn, 1) := of_row (r := (52, .ireturn, 1)) DX0_notches_b0 11 rfl
theorem dX0_notches_53 : decode cX0_notches 53 = .ok (.iload_n 0, 1) := of_row (r := (53, .iload_n 0, 1)) DX0_notches_b0 12 rfl
theorem dX0_notches_54 : decode cX0_notches 54 = .ok (.sipush 240, 3) := of_row (r := (54, .sipush 240, 3)) DX0_notches_b0 13 rfl
theorem dX0_notches_57 : decode cX0_notches 57 = .ok (.idiv, 1) := of_row (r := (57, .idiv, 1)) DX0_notches_b0 14 rfl
theorem dX0_notches_58 : decode cX0_notches 58 = .ok (.bipush 20, 2) := of_row (r := (58, .bipush 20, 2)) DX0_notches_b0 15 rfl
theorem dX0_notches_60 : decode cX0_notches 60 = .ok (.irem, 1) := of_row (r := (60, .irem, 1)) DX0_notches_b0 16 rfl
theorem dX0_notches_61 : decode cX0_notches 61 = .ok (.ireturn, 1) := of_row (r := (61, .ireturn, 1)) DX0_notches_b0 17 rfl
theorem dX0_notches_62 : decode cX0_notches 62 = .ok (.iload_n 0, 1) := of_row (r := (62, .iload_n 0, 1)) DX0_notches_b0 18 rfl
theorem dX0_notches_63 : decode cX0_notches 63 = .ok (.sipush 4800, 3) := of_row (r := (63, .sipush 4800, 3)) DX0_notches_b0 19 rfl
theorem dX0_notches_66 : decode cX0_notches 66 = .ok (.idiv, 1) := of_row (r := (66, .idiv, 1)) DX0_notches_b0 20 rfl
theorem dX0_notches_67 : decode cX0_notches 67 = .ok (.iconst 5, 1) := of_row (r := (67, .iconst 5, 1)) DX0_notches_b0 21 rfl
theorem dX0_notches_68 : decode cX0_notches 68 = .ok (.irem, 1) := of_row (r := (68, .irem, 1)) DX0_notches_b0 22 rfl
theorem dX0_notches_69 : decode cX0_notches 69 = .ok (.ireturn, 1) := of_row (r := (69, .ireturn, 1)) DX0_notches_b0 23 rfl
theorem dX0_notches_70 : decode cX0_notches 70 = .ok (.iload_n 0, 1) := of_row (r := (70, .iload_n 0, 1)) DX0_notches_b0 24 rfl
theorem dX0_notches_71 : decode cX0_notches 71 = .ok (.sipush 24000, 3) := of_row (r := (71, .sipush 24000, 3)) DX0_notches_b0 25 rfl
theorem dX0_notches_74 : decode cX0_notches 74 = .ok (.idiv, 1) := of_row (r := (74, .idiv, 1)) DX0_notches_b0 26 rfl
theorem dX0_notches_75 : decode cX0_notches 75 = .ok (.bipush 10, 2) := of_row (r := (75, .bipush 10, 2)) DX0_notches_b0 27 rfl
theorem dX0_notches_77 : decode cX0_notches 77 = .ok (.irem, 1) := of_row (r := (77, .irem, 1)) DX0_notches_b0 28 rfl
theorem dX0_notches_78 : decode cX0_notches 78 = .ok (.ireturn, 1) := of_row (r := (78, .ireturn, 1)) DX0_notches_b0 29 rfl
theorem dX0_notches_79 : decode cX0_notches 79 = .ok (.iload_n 0, 1) := of_row (r := (79, .iload_n 0, 1)) DX0_notches_b0 30 rfl
theorem dX0_notches_80 : decode cX0_notches 80 = .ok (.ldc 15, 2) := of_row (r := (80, .ldc 15, 2)) DX0_notches_b0 31 rfl
theorem dX0_notches_82 : decode cX0_notches 82 = .ok (.idiv, 1) := of_row (r := (82, .idiv, 1)) DX0_notches_b0 32 rfl
theorem dX0_notches_83 : decode cX0_notches 83 = .ok (.ireturn, 1) := of_row (r := (83, .ireturn, 1)) DX0_notches_b0 33 rfl
theorem dX0_notches_84 : decode cX0_notches 84 = .ok (.iconst 0, 1) := of_row (r := (84, .iconst 0, 1)) DX0_notches_b0 34 rfl
theorem dX0_notches_85 : decode cX0_notches 85 = .ok (.ireturn, 1) := of_row (r := (85, .ireturn, 1)) DX0_notches_b0 35 rfl
set_option maxRecDepth 20000 in
theorem DX0_lies_b0 : ([(0, .lconst 0, 1), (1, .lstore_n 1, 1), (2, .iconst 0, 1), (3, .istore_n 3, 1), (4, .iload_n 3, 1), (5, .bipush 6, 2), (7, .if_icmp .ge 26, 3), (10, .lload_n 1, 1), (11, .aload_n 0, 1), (12, .getfield 9, 3), (15, .iload_n 3, 1), (16, .iaload, 1), (17, .i2l, 1), (18, .getstatic 16, 3), (21, .iload_n 3, 1), (22, .iaload, 1), (23, .i2l, 1), (24, .lmul, 1), (25, .ladd, 1), (26, .lstore_n 1, 1), (27, .iinc 3 1, 3), (30, .goto (-26), 3), (33, .lload_n 1, 1), (34, .lreturn, 1)] : List (Nat × Instr × Nat)).all (fun r => decide (decode cX0_lies r.1 = .ok r.2)) = true := by decide +kernel
theorem dX0_lies_0 : decode cX0_lies 0 = .ok (.lconst 0, 1) := of_row (r := (0, .lconst 0, 1)) DX0_lies_b0 0 rfl
theorem dX0_lies_1 : decode cX0_lies 1 = .ok (.lstore_n 1, 1) := of_row (r := (1, .lstore_n 1, 1)) DX0_lies_b0 1 rfl
theorem dX0_lies_2 : decode cX0_lies 2 = .ok (.iconst 0, 1) := of_row (r := (2, .iconst 0, 1)) DX0_lies_b0 2 rfl
theorem dX0_lies_3 : decode cX0_lies 3 = .ok (.istore_n 3, 1) := of_row (r := (3, .istore_n 3, 1)) DX0_lies_b0 3 rfl
theorem dX0_lies_4 : decode cX0_lies 4 = .ok (.iload_n 3, 1) := of_row (r := (4, .iload_n 3, 1)) DX0_lies_b0 4 rfl
theorem dX0_lies_5 : decode cX0_lies 5 = .ok (.bipush 6, 2) := of_row (r := (5, .bipush 6, 2)) DX0_lies_b0 5 rfl
theorem dX0_lies_7 : decode cX0_lies 7 = .ok (.if_icmp .ge 26, 3) := of_row (r := (7, .if_icmp .ge 26, 3)) DX0_lies_b0 6 rfl
theorem dX0_lies_10 : decode cX0_lies 10 = .ok (.lload_n 1, 1) := of_row (r := (10, .lload_n 1, 1)) DX0_lies_b0 7 rfl
theorem dX0_lies_11 : decode cX0_lies 11 = .ok (.aload_n 0, 1) := of_row (r := (11, .aload_n 0, 1)) DX0_lies_b0 8 rfl
theorem dX0_lies_12 : decode cX0_lies 12 = .ok (.getfield 9, 3) := of_row (r := (12, .getfield 9, 3)) DX0_lies_b0 9 rfl
theorem dX0_lies_15 : decode cX0_lies 15 = .ok (.iload_n 3, 1) := of_row (r := (15, .iload_n 3, 1)) DX0_lies_b0 10 rfl
theorem dX0_lies_16 : decode cX0_lies 16 = .ok (.iaload, 1) := of_row (r := (16, .iaload, 1)) DX0_lies_b0 11 rfl
theorem dX0_lies_17 : decode cX0_lies 17 = .ok (.i2l, 1) := of_row (r := (17, .i2l, 1)) DX0_lies_b0 12 rfl
theorem dX0_lies_18 : decode cX0_lies 18 = .ok (.getstatic 16, 3) := of_row (r := (18, .getstatic 16, 3)) DX0_lies_b0 13 rfl
theorem dX0_lies_21 : decode cX0_lies 21 = .ok (.iload_n 3, 1) := of_row (r := (21, .iload_n 3, 1)) DX0_lies_b0 14 rfl
theorem dX0_lies_22 : decode cX0_lies 22 = .ok (.iaload, 1) := of_row (r := (22, .iaload, 1)) DX0_lies_b0 15 rfl
theorem dX0_lies_23 : decode cX0_lies 23 = .ok (.i2l, 1) := of_row (r := (23, .i2l, 1)) DX0_lies_b0 16 rfl
theorem dX0_lies_24 : decode cX0_lies 24 = .ok (.lmul, 1) := of_row (r := (24, .lmul, 1)) DX0_lies_b0 17 rfl
theorem dX0_lies_25 : decode cX0_lies 25 = .ok (.ladd, 1) := of_row (r := (25, .ladd, 1)) DX0_lies_b0 18 rfl
theorem dX0_lies_26 : decode cX0_lies 26 = .ok (.lstore_n 1, 1) := of_row (r := (26, .lstore_n 1, 1)) DX0_lies_b0 19 rfl
theorem dX0_lies_27 : decode cX0_lies 27 = .ok (.iinc 3 1, 3) := of_row (r := (27, .iinc 3 1, 3)) DX0_lies_b0 20 rfl
theorem dX0_lies_30 : decode cX0_lies 30 = .ok (.goto (-26), 3) := of_row (r := (30, .goto (-26), 3)) DX0_lies_b0 21 rfl
theorem dX0_lies_33 : decode cX0_lies 33 = .ok (.lload_n 1, 1) := of_row (r := (33, .lload_n 1, 1)) DX0_lies_b0 22 rfl
theorem dX0_lies_34 : decode cX0_lies 34 = .ok (.lreturn, 1) := of_row (r := (34, .lreturn, 1)) DX0_lies_b0 23 rfl
set_option maxRecDepth 20000 in
theorem DX0_layDown_b0 : ([(0, .iconst 0, 1), (1, .istore_n 2, 1), (2, .iload_n 2, 1), (3, .bipush 6, 2), (5, .if_icmp .ge 23, 3), (8, .aload_n 0, 1), (9, .getfield 9, 3), (12, .iload_n 2, 1), (13, .dup2, 1), (14, .iaload, 1), (15, .iload_n 1, 1), (16, .iload_n 2, 1), (17, .invokestatic 19, 3), (20, .iadd, 1), (21, .iastore, 1), (22, .iinc 2 1, 3), (25, .goto (-23), 3), (28, .iconst 0, 1), (29, .istore_n 2, 1), (30, .iconst 0, 1), (31, .istore_n 3, 1), (32, .iload_n 3, 1), (33, .getstatic 23, 3), (36, .arraylength, 1), (37, .if_icmp .ge 52, 3), (40, .aload_n 0, 1), (41, .getfield 9, 3), (44, .iload_n 3, 1), (45, .iaload, 1), (46, .getstatic 23, 3), (49, .iload_n 3, 1), (50, .iaload, 1), (51, .if_icmp .lt 32, 3), (54, .aload_n 0, 1), (55, .getfield 9, 3), (58, .iload_n 3, 1), (59, .dup2, 1), (60, .iaload, 1), (61, .getstatic 23, 3), (64, .iload_n 3, 1), (65, .iaload, 1), (66, .isub, 1), (67, .iastore, 1), (68, .aload_n 0, 1), (69, .getfield 9, 3), (72, .iload_n 3, 1), (73, .iconst 1, 1), (74, .iadd, 1), (75, .dup2, 1), (76, .iaload, 1), (77, .iconst 1, 1), (78, .iadd, 1), (79, .iastore, 1), (80, .iinc 2 1, 3), (83, .iinc 3 1, 3), (86, .goto (-54), 3), (89, .iload_n 2, 1), (90, .ireturn, 1)] : List (Nat × Instr × Nat)).all (fun r => decide (decode cX0_layDown r.1 = .ok r.2)) = true := by decide +kernel
theorem dX0_layDown_0 : decode cX0_layDown 0 = .ok (.iconst 0, 1) := of_row (r := (0, .iconst 0, 1)) DX0_layDown_b0 0 rfl
theorem dX0_layDown_1 : decode cX0_layDown 1 = .ok (.istore_n 2, 1) := of_row (r := (1, .istore_n 2, 1)) DX0_layDown_b0 1 rfl
theorem dX0_layDown_2 : decode cX0_layDown 2 = .ok (.iload_n 2, 1) := of_row (r := (2, .iload_n 2, 1)) DX0_layDown_b0 2 rfl
theorem dX0_layDown_3 : decode cX0_layDown 3 = .ok (.bipush 6, 2) := of_row (r := (3, .bipush 6, 2)) DX0_layDown_b0 3 rfl
theorem dX0_layDown_5 : decode cX0_layDown 5 = .ok (.if_icmp .ge 23, 3) := of_row (r := (5, .if_icmp .ge 23, 3)) DX0_layDown_b0 4 rfl
theorem dX0_layDown_8 : decode cX0_layDown 8 = .ok (.aload_n 0, 1) := of_row (r := (8, .aload_n 0, 1)) DX0_layDown_b0 5 rfl
theorem dX0_layDown_9 : decode cX0_layDown 9 = .ok (.getfield 9, 3) := of_row (r := (9, .getfield 9, 3)) DX0_layDown_b0 6 rfl
theorem dX0_layDown_12 : decode cX0_layDown 12 = .ok (.iload_n 2, 1) := of_row (r := (12, .iload_n 2, 1)) DX0_layDown_b0 7 rfl
theorem dX0_layDown_13 : decode cX0_layDown 13 = .ok (.dup2, 1) := of_row (r := (13, .dup2, 1)) DX0_layDown_b0 8 rfl
theorem dX0_layDown_14 : decode cX0_layDown 14 = .ok (.iaload, 1) := of_row (r := (14, .iaload, 1)) DX0_layDown_b0 9 rfl
theorem dX0_layDown_15 : decode cX0_layDown 15 = .ok (.iload_n 1, 1) := of_row (r := (15, .iload_n 1, 1)) DX0_layDown_b0 10 rfl
theorem dX0_layDown_16 : decode cX0_layDown 16 = .ok (.iload_n 2, 1) := of_row (r := (16, .iload_n 2, 1)) DX0_layDown_b0 11 rfl
theorem dX0_layDown_17 : decode cX0_layDown 17 = .ok (.invokestatic 19, 3) := of_row (r := (17, .invokestatic 19, 3)) DX0_layDown_b0 12 rfl
theorem dX0_layDown_20 : decode cX0_layDown 20 = .ok (.iadd, 1) := of_row (r := (20, .iadd, 1)) DX0_layDown_b0 13 rfl
theorem dX0_layDown_21 : decode cX0_layDown 21 = .ok (.iastore, 1) := of_row (r := (21, .iastore, 1)) DX0_layDown_b0 14 rfl
theorem dX0_layDown_22 : decode cX0_layDown 22 = .ok (.iinc 2 1, 3) := of_row (r := (22, .iinc 2 1, 3)) DX0_layDown_b0 15 rfl
theorem dX0_layDown_25 : decode cX0_layDown 25 = .ok (.goto (-23), 3) := of_row (r := (25, .goto (-23), 3)) DX0_layDown_b0 16 rfl
theorem dX0_layDown_28 : decode cX0_layDown 28 = .ok (.iconst 0, 1) := of_row (r := (28, .iconst 0, 1)) DX0_layDown_b0 17 rfl
theorem dX0_layDown_29 : decode cX0_layDown 29 = .ok (.istore_n 2, 1) := of_row (r := (29, .istore_n 2, 1)) DX0_layDown_b0 18 rfl
theorem dX0_layDown_30 : decode cX0_layDown 30 = .ok (.iconst 0, 1) := of_row (r := (30, .iconst 0, 1)) DX0_layDown_b0 19 rfl
theorem dX0_layDown_31 : decode cX0_layDown 31 = .ok (.istore_n 3, 1) := of_row (r := (31, .istore_n 3, 1)) DX0_layDown_b0 20 rfl
theorem dX0_layDown_32 : decode cX0_layDown 32 = .ok (.iload_n 3, 1) := of_row (r := (32, .iload_n 3, 1)) DX0_layDown_b0 21 rfl
theorem dX0_layDown_33 : decode cX0_layDown 33 = .ok (.getstatic 23, 3) := of_row (r := (33, .getstatic 23, 3)) DX0_layDown_b0 22 rfl
theorem dX0_layDown_36 : decode cX0_layDown 36 = .ok (.arraylength, 1) := of_row (r := (36, .arraylength, 1)) DX0_layDown_b0 23 rfl
theorem dX0_layDown_37 : decode cX0_layDown 37 = .ok (.if_icmp .ge 52, 3) := of_row (r := (37, .if_icmp .ge 52, 3)) DX0_layDown_b0 24 rfl
theorem dX0_layDown_40 : decode cX0_layDown 40 = .ok (.aload_n 0, 1) := of_row (r := (40, .aload_n 0, 1)) DX0_layDown_b0 25 rfl
theorem dX0_layDown_41 : decode cX0_layDown 41 = .ok (.getfield 9, 3) := of_row (r := (41, .getfield 9, 3)) DX0_layDown_b0 26 rfl
theorem dX0_layDown_44 : decode cX0_layDown 44 = .ok (.iload_n 3, 1) := of_row (r := (44, .iload_n 3, 1)) DX0_layDown_b0 27 rfl
theorem dX0_layDown_45 : decode cX0_layDown 45 = .ok (.iaload, 1) := of_row (r := (45, .iaload, 1)) DX0_layDown_b0 28 rfl
theorem dX0_layDown_46 : decode cX0_layDown 46 = .ok (.getstatic 23, 3) := of_row (r := (46, .getstatic 23, 3)) DX0_layDown_b0 29 rfl
theorem dX0_layDown_49 : decode cX0_layDown 49 = .ok (.iload_n 3, 1) := of_row (r := (49, .iload_n 3, 1)) DX0_layDown_b0 30 rfl
theorem dX0_layDown_50 : decode cX0_layDown 50 = .ok (.iaload, 1) := of_row (r := (50, .iaload, 1)) DX0_layDown_b0 31 rfl
theorem dX0_layDown_51 : decode cX0_layDown 51 = .ok (.if_icmp .lt 32, 3) := of_row (r := (51, .if_icmp .lt 32, 3)) DX0_layDown_b0 32 rfl
theorem dX0_layDown_54 : decode cX0_layDown 54 = .ok (.aload_n 0, 1) := of_row (r := (54, .aload_n 0, 1)) DX0_layDown_b0 33 rfl
theorem dX0_layDown_55 : decode cX0_layDown 55 = .ok (.getfield 9, 3) := of_row (r := (55, .getfield 9, 3)) DX0_layDown_b0 34 rfl
theorem dX0_layDown_58 : decode cX0_layDown 58 = .ok (.iload_n 3, 1) := of_row (r := (58, .iload_n 3, 1)) DX0_layDown_b0 35 rfl
theorem dX0_layDown_59 : decode cX0_layDown 59 = .ok (.dup2, 1) := of_row (r := (59, .dup2, 1)) DX0_layDown_b0 36 rfl
theorem dX0_layDown_60 : decode cX0_layDown 60 = .ok (.iaload, 1) := of_row (r := (60, .iaload, 1)) DX0_layDown_b0 37 rfl
theorem dX0_layDown_61 : decode cX0_layDown 61 = .ok (.getstatic 23, 3) := of_row (r := (61, .getstatic 23, 3)) DX0_layDown_b0 38 rfl
theorem dX0_layDown_64 : decode cX0_layDown 64 = .ok (.iload_n 3, 1) := of_row (r := (64, .iload_n 3, 1)) DX0_layDown_b0 39 rfl
theorem dX0_layDown_65 : decode cX0_layDown 65 = .ok (.iaload, 1) := of_row (r := (65, .iaload, 1)) DX0_layDown_b0 40 rfl
theorem dX0_layDown_66 : decode cX0_layDown 66 = .ok (.isub, 1) := of_row (r := (66, .isub, 1)) DX0_layDown_b0 41 rfl
theorem dX0_layDown_67 : decode cX0_layDown 67 = .ok (.iastore, 1) := of_row (r := (67, .iastore, 1)) DX0_layDown_b0 42 rfl
theorem dX0_layDown_68 : decode cX0_layDown 68 = .ok (.aload_n 0, 1) := of_row (r := (68, .aload_n 0, 1)) DX0_layDown_b0 43 rfl
theorem dX0_layDown_69 : decode cX0_layDown 69 = .ok (.getfield 9, 3) := of_row (r := (69, .getfield 9, 3)) DX0_layDown_b0 44 rfl
theorem dX0_layDown_72 : decode cX0_layDown 72 = .ok (.iload_n 3, 1) := of_row (r := (72, .iload_n 3, 1)) DX0_layDown_b0 45 rfl
theorem dX0_layDown_73 : decode cX0_layDown 73 = .ok (.iconst 1, 1) := of_row (r := (73, .iconst 1, 1)) DX0_layDown_b0 46 rfl
theorem dX0_layDown_74 : decode cX0_layDown 74 = .ok (.iadd, 1) := of_row (r := (74, .iadd, 1)) DX0_layDown_b0 47 rfl
theorem dX0_layDown_75 : decode cX0_layDown 75 = .ok (.dup2, 1) := of_row (r := (75, .dup2, 1)) DX0_layDown_b0 48 rfl
theorem dX0_layDown_76 : decode cX0_layDown 76 = .ok (.iaload, 1) := of_row (r := (76, .iaload, 1)) DX0_layDown_b0 49 rfl
theorem dX0_layDown_77 : decode cX0_layDown 77 = .ok (.iconst 1, 1) := of_row (r := (77, .iconst 1, 1)) DX0_layDown_b0 50 rfl
theorem dX0_layDown_78 : decode cX0_layDown 78 = .ok (.iadd, 1) := of_row (r := (78, .iadd, 1)) DX0_layDown_b0 51 rfl
theorem dX0_layDown_79 : decode cX0_layDown 79 = .ok (.iastore, 1) := of_row (r := (79, .iastore, 1)) DX0_layDown_b0 52 rfl
theorem dX0_layDown_80 : decode cX0_layDown 80 = .ok (.iinc 2 1, 3) := of_row (r := (80, .iinc 2 1, 3)) DX0_layDown_b0 53 rfl
theorem dX0_layDown_83 : decode cX0_layDown 83 = .ok (.iinc 3 1, 3) := of_row (r := (83, .iinc 3 1, 3)) DX0_layDown_b0 54 rfl
theorem dX0_layDown_86 : decode cX0_layDown 86 = .ok (.goto (-54), 3) := of_row (r := (86, .goto (-54), 3)) DX0_layDown_b0 55 rfl
theorem dX0_layDown_89 : decode cX0_layDown 89 = .ok (.iload_n 2, 1) := of_row (r := (89, .iload_n 2, 1)) DX0_layDown_b0 56 rfl
theorem dX0_layDown_90 : decode cX0_layDown 90 = .ok (.ireturn, 1) := of_row (r := (90, .ireturn, 1)) DX0_layDown_b0 57 rfl
set_option maxRecDepth 20000 in
theorem DX0_takeUp_b0 : ([(0, .iconst 0, 1), (1, .istore_n 2, 1), (2, .iconst 0, 1), (3, .istore_n 3, 1), (4, .iload_n 3, 1), (5, .bipush 6, 2), (7, .if_icmp .ge 46, 3), (10, .iload_n 1, 1), (11, .iload_n 3, 1), (12, .invokestatic 19, 3), (15, .istore 4, 2), (17, .aload_n 0, 1), (18, .getfield 9, 3), (21, .iload_n 3, 1), (22, .iaload, 1), (23, .iload 4, 2), (25, .if_icmp .ge 11, 3), (28, .iload_n 2, 1), (29, .aload_n 0, 1), (30, .iload_n 3, 1), (31, .invokevirtual 26, 3), (34, .iadd, 1), (35, .istore_n 2, 1), (36, .aload_n 0, 1), (37, .getfield 9, 3), (40, .iload_n 3, 1), (41, .dup2, 1), (42, .iaload, 1), (43, .iload 4, 2), (45, .isub, 1), (46, .iastore, 1), (47, .iinc 3 1, 3), (50, .goto (-46), 3), (53, .iload_n 2, 1), (54, .ireturn, 1)] : List (Nat × Instr × Nat)).all (fun r => decide (decode cX0_takeUp r.1 = .ok r.2)) = true := by decide +kernel
theorem dX0_takeUp_0 : decode cX0_takeUp 0 = .ok (.iconst 0, 1) := of_row (r := (0, .iconst 0, 1)) DX0_takeUp_b0 0 rfl
theorem dX0_takeUp_1 : decode cX0_takeUp 1 = .ok (.istore_n 2, 1) := of_row (r := (1, .istore_n 2, 1)) DX0_takeUp_b0 1 rfl
theorem dX0_takeUp_2 : decode cX0_takeUp 2 = .ok (.iconst 0, 1) := of_row (r := (2, .iconst 0, 1)) DX0_takeUp_b0 2 rfl
theorem dX0_takeUp_3 : decode cX0_takeUp 3 = .ok (.istore_n 3, 1) := of_row (r := (3, .istore_n 3, 1)) DX0_takeUp_b0 3 rfl
theorem dX0_takeUp_4 : decode cX0_takeUp 4 = .ok (.iload_n 3, 1) := of_row (r := (4, .iload_n 3, 1)) DX0_takeUp_b0 4 rfl
theorem dX0_takeUp_5 : decode cX0_takeUp 5 = .ok (.bipush 6, 2) := of_row (r := (5, .bipush 6, 2)) DX0_takeUp_b0 5 rfl
theorem dX0_takeUp_7 : decode cX0_takeUp 7 = .ok (.if_icmp .ge 46, 3) := of_row (r := (7, .if_icmp .ge 46, 3)) DX0_takeUp_b0 6 rfl
theorem dX0_takeUp_10 : decode cX0_takeUp 10 = .ok (.iload_n 1, 1) := of_row (r := (10, .iload_n 1, 1)) DX0_takeUp_b0 7 rfl
theorem dX0_takeUp_11 : decode cX0_takeUp 11 = .ok (.iload_n 3, 1) := of_row (r := (11, .iload_n 3, 1)) DX0_takeUp_b0 8 rfl
theorem dX0_takeUp_12 : decode cX0_takeUp 12 = .ok (.invokestatic 19, 3) := of_row (r := (12, .invokestatic 19, 3)) DX0_takeUp_b0 9 rfl
theorem dX0_takeUp_15 : decode cX0_takeUp 15 = .ok (.istore 4, 2) := of_row (r := (15, .istore 4, 2)) DX0_takeUp_b0 10 rfl
theorem dX0_takeUp_17 : decode cX0_takeUp 17 = .ok (.aload_n 0, 1) := of_row (r := (17, .aload_n 0, 1)) DX0_takeUp_b0 11 rfl
theorem dX0_takeUp_18 : decode cX0_takeUp 18 = .ok (.getfield 9, 3) := of_row (r := (18, .getfield 9, 3)) DX0_takeUp_b0 12 rfl
theorem dX0_takeUp_21 : decode cX0_takeUp 21 = .ok (.iload_n 3, 1) := of_row (r := (21, .iload_n 3, 1)) DX0_takeUp_b0 13 rfl
theorem dX0_takeUp_22 : decode cX0_takeUp 22 = .ok (.iaload, 1) := of_row (r := (22, .iaload, 1)) DX0_takeUp_b0 14 rfl
theorem dX0_takeUp_23 : decode cX0_takeUp 23 = .ok (.iload 4, 2) := of_row (r := (23, .iload 4, 2)) DX0_takeUp_b0 15 rfl
theorem dX0_takeUp_25 : decode cX0_takeUp 25 = .ok (.if_icmp .ge 11, 3) := of_row (r := (25, .if_icmp .ge 11, 3)) DX0_takeUp_b0 16 rfl
theorem dX0_takeUp_28 : decode cX0_takeUp 28 = .ok (.iload_n 2, 1) := of_row (r := (28, .iload_n 2, 1)) DX0_takeUp_b0 17 rfl
theorem dX0_takeUp_29 : decode cX0_takeUp 29 = .ok (.aload_n 0, 1) := of_row (r := (29, .aload_n 0, 1)) DX0_takeUp_b0 18 rfl
theorem dX0_takeUp_30 : decode cX0_takeUp 30 = .ok (.iload_n 3, 1) := of_row (r := (30, .iload_n 3, 1)) DX0_takeUp_b0 19 rfl
theorem dX0_takeUp_31 : decode cX0_takeUp 31 = .ok (.invokevirtual 26, 3) := of_row (r := (31, .invokevirtual 26, 3)) DX0_takeUp_b0 20 rfl
theorem dX0_takeUp_34 : decode cX0_takeUp 34 = .ok (.iadd, 1) := of_row (r := (34, .iadd, 1)) DX0_takeUp_b0 21 rfl
theorem dX0_takeUp_35 : decode cX0_takeUp 35 = .ok (.istore_n 2, 1) := of_row (r := (35, .istore_n 2, 1)) DX0_takeUp_b0 22 rfl
theorem dX0_takeUp_36 : decode cX0_takeUp 36 = .ok (.aload_n 0, 1) := of_row (r := (36, .aload_n 0, 1)) DX0_takeUp_b0 23 rfl
theorem dX0_takeUp_37 : decode cX0_takeUp 37 = .ok (.getfield 9, 3) := of_row (r := (37, .getfield 9, 3)) DX0_takeUp_b0 24 rfl
theorem dX0_takeUp_40 : decode cX0_takeUp 40 = .ok (.iload_n 3, 1) := of_row (r := (40, .iload_n 3, 1)) DX0_takeUp_b0 25 rfl
theorem dX0_takeUp_41 : decode cX0_takeUp 41 = .ok (.dup2, 1) := of_row (r := (41, .dup2, 1)) DX0_takeUp_b0 26 rfl
theorem dX0_takeUp_42 : decode cX0_takeUp 42 = .ok (.iaload, 1) := of_row (r := (42, .iaload, 1)) DX0_takeUp_b0 27 rfl
theorem dX0_takeUp_43 : decode cX0_takeUp 43 = .ok (.iload 4, 2) := of_row (r := (43, .iload 4, 2)) DX0_takeUp_b0 28 rfl
theorem dX0_takeUp_45 : decode cX0_takeUp 45 = .ok (.isub, 1) := of_row (r := (45, .isub, 1)) DX0_takeUp_b0 29 rfl
theorem dX0_takeUp_46 : decode cX0_takeUp 46 = .ok (.iastore, 1) := of_row (r := (46, .iastore, 1)) DX0_takeUp_b0 30 rfl
theorem dX0_takeUp_47 : decode cX0_takeUp 47 = .ok (.iinc 3 1, 3) := of_row (r := (47, .iinc 3 1, 3)) DX0_takeUp_b0 31 rfl
theorem dX0_takeUp_50 : decode cX0_takeUp 50 = .ok (.goto (-46), 3) := of_row (r := (50, .goto (-46), 3)) DX0_takeUp_b0 32 rfl
theorem dX0_takeUp_53 : decode cX0_takeUp 53 = .ok (.iload_n 2, 1) := of_row (r := (53, .iload_n 2, 1)) DX0_takeUp_b0 33 rfl
theorem dX0_takeUp_54 : decode cX0_takeUp 54 = .ok (.ireturn, 1) := of_row (r := (54, .ireturn, 1)) DX0_takeUp_b0 34 rfl
set_option maxRecDepth 20000 in
theorem DX0_bringDown_b0 : ([(0, .iload_n 1, 1), (1, .iconst 1, 1), (2, .iadd, 1), (3, .istore_n 2, 1), (4, .iload_n 2, 1), (5, .bipush 6, 2), (7, .if_icmp .ge 19, 3), (10, .aload_n 0, 1), (11, .getfield 9, 3), (14, .iload_n 2, 1), (15, .iaload, 1), (16, .iconst 1, 1), (17, .if_icmp .ge 9, 3), (20, .iinc 2 1, 3), (23, .goto (-19), 3), (26, .iload_n 2, 1), (27, .bipush 6, 2), (29, .if_icmp .lt 5, 3), (32, .iconst 0, 1), (33, .ireturn, 1), (34, .iload_n 2, 1), (35, .istore_n 3, 1), (36, .iload_n 3, 1), (37, .iload_n 1, 1), (38, .if_icmp .le 37, 3), (41, .aload_n 0, 1), (42, .getfield 9, 3), (45, .iload_n 3, 1), (46, .dup2, 1), (47, .iaload, 1), (48, .iconst 1, 1), (49, .isub, 1), (50, .iastore, 1), (51, .aload_n 0, 1), (52, .getfield 9, 3), (55, .iload_n 3, 1), (56, .iconst 1, 1), (57, .isub, 1), (58, .dup2, 1), (59, .iaload, 1), (60, .getstatic 23, 3), (63, .iload_n 3, 1), (64, .iconst 1, 1), (65, .isub, 1), (66, .iaload, 1), (67, .iadd, 1), (68, .iastore, 1), (69, .iinc 3 (-1), 3), (72, .goto (-36), 3), (75, .iload_n 2, 1), (76, .iload_n 1, 1), (77, .isub, 1), (78, .ireturn, 1)] : List (Nat × Instr × Nat)).all (fun r => decide (decode cX0_bringDown r.1 = .ok r.2)) = true := by decide +kernel
theorem dX0_bringDown_0 : decode cX0_bringDown 0 = .ok (.iload_n 1, 1) := of_row (r := (0, .iload_n 1, 1)) DX0_bringDown_b0 0 rfl
theorem dX0_bringDown_1 : decode cX0_bringDown 1 = .ok (.iconst 1, 1) := of_row (r := (1, .iconst 1, 1)) DX0_bringDown_b0 1 rfl
theorem dX0_bringDown_2 : decode cX0_bringDown 2 = .ok (.iadd, 1) := of_row (r := (2, .iadd, 1)) DX0_bringDown_b0 2 rfl
theorem dX0_bringDown_3 : decode cX0_bringDown 3 = .ok (.istore_n 2, 1) := of_row (r := (3, .istore_n 2, 1)) DX0_bringDown_b0 3 rfl
theorem dX0_bringDown_4 : decode cX0_bringDown 4 = .ok (.iload_n 2, 1) := of_row (r := (4, .iload_n 2, 1)) DX0_bringDown_b0 4 rfl
theorem dX0_bringDown_5 : decode cX0_bringDown 5 = .ok (.bipush 6, 2) := of_row (r := (5, .bipush 6, 2)) DX0_bringDown_b0 5 rfl
theorem dX0_bringDown_7 : decode cX0_bringDown 7 = .ok (.if_icmp .ge 19, 3) := of_row (r := (7, .if_icmp .ge 19, 3)) DX0_bringDown_b0 6 rfl
theorem dX0_bringDown_10 : decode cX0_bringDown 10 = .ok (.aload_n 0, 1) := of_row (r := (10, .aload_n 0, 1)) DX0_bringDown_b0 7 rfl
theorem dX0_bringDown_11 : decode cX0_bringDown 11 = .ok (.getfield 9, 3) := of_row (r := (11, .getfield 9, 3)) DX0_bringDown_b0 8 rfl
theorem dX0_bringDown_14 : decode cX0_bringDown 14 = .ok (.iload_n 2, 1) := of_row (r := (14, .iload_n 2, 1)) DX0_bringDown_b0 9 rfl
theorem dX0_bringDown_15 : decode cX0_bringDown 15 = .ok (.iaload, 1) := of_row (r := (15, .iaload, 1)) DX0_bringDown_b0 10 rfl
theorem dX0_bringDown_16 : decode cX0_bringDown 16 = .ok (.iconst 1, 1) := of_row (r := (16, .iconst 1, 1)) DX0_bringDown_b0 11 rfl
theorem dX0_bringDown_17 : decode cX0_bringDown 17 = .ok (.if_icmp .ge 9, 3) := of_row (r := (17, .if_icmp .ge 9, 3)) DX0_bringDown_b0 12 rfl
theorem dX0_bringDown_20 : decode cX0_bringDown 20 = .ok (.iinc 2 1, 3) := of_row (r := (20, .iinc 2 1, 3)) DX0_bringDown_b0 13 rfl
theorem dX0_bringDown_23 : decode cX0_bringDown 23 = .ok (.goto (-19), 3) := of_row (r := (23, .goto (-19), 3)) DX0_bringDown_b0 14 rfl
theorem dX0_bringDown_26 : decode cX0_bringDown 26 = .ok (.iload_n 2, 1) := of_row (r := (26, .iload_n 2, 1)) DX0_bringDown_b0 15 rfl
theorem dX0_bringDown_27 : decode cX0_bringDown 27 = .ok (.bipush 6, 2) := of_row (r := (27, .bipush 6, 2)) DX0_bringDown_b0 16 rfl
theorem dX0_bringDown_29 : decode cX0_bringDown 29 = .ok (.if_icmp .lt 5, 3) := of_row (r := (29, .if_icmp .lt 5, 3)) DX0_bringDown_b0 17 rfl
theorem dX0_bringDown_32 : decode cX0_bringDown 32 = .ok (.iconst 0, 1) := of_row (r := (32, .iconst 0, 1)) DX0_bringDown_b0 18 rfl
theorem dX0_bringDown_33 : decode cX0_bringDown 33 = .ok (.ireturn, 1) := of_row (r := (33, .ireturn, 1)) DX0_bringDown_b0 19 rfl
theorem dX0_bringDown_34 : decode cX0_bringDown 34 = .ok (.iload_n 2, 1) := of_row (r := (34, .iload_n 2, 1)) DX0_bringDown_b0 20 rfl
theorem dX0_bringDown_35 : decode cX0_bringDown 35 = .ok (.istore_n 3, 1) := of_row (r := (35, .istore_n 3, 1)) DX0_bringDown_b0 21 rfl
theorem dX0_bringDown_36 : decode cX0_bringDown 36 = .ok (.iload_n 3, 1) := of_row (r := (36, .iload_n 3, 1)) DX0_bringDown_b0 22 rfl
theorem dX0_bringDown_37 : decode cX0_bringDown 37 = .ok (.iload_n 1, 1) := of_row (r := (37, .iload_n 1, 1)) DX0_bringDown_b0 23 rfl
theorem dX0_bringDown_38 : decode cX0_bringDown 38 = .ok (.if_icmp .le 37, 3) := of_row (r := (38, .if_icmp .le 37, 3)) DX0_bringDown_b0 24 rfl
theorem dX0_bringDown_41 : decode cX0_bringDown 41 = .ok (.aload_n 0, 1) := of_row (r := (41, .aload_n 0, 1)) DX0_bringDown_b0 25 rfl
theorem dX0_bringDown_42 : decode cX0_bringDown 42 = .ok (.getfield 9, 3) := of_row (r := (42, .getfield 9, 3)) DX0_bringDown_b0 26 rfl
theorem dX0_bringDown_45 : decode cX0_bringDown 45 = .ok (.iload_n 3, 1) := of_row (r := (45, .iload_n 3, 1)) DX0_bringDown_b0 27 rfl
theorem dX0_bringDown_46 : decode cX0_bringDown 46 = .ok (.dup2, 1) := of_row (r := (46, .dup2, 1)) DX0_bringDown_b0 28 rfl
theorem dX0_bringDown_47 : decode cX0_bringDown 47 = .ok (.iaload, 1) := of_row (r := (47, .iaload, 1)) DX0_bringDown_b0 29 rfl
theorem dX0_bringDown_48 : decode cX0_bringDown 48 = .ok (.iconst 1, 1) := of_row (r := (48, .iconst 1, 1)) DX0_bringDown_b0 30 rfl
theorem dX0_bringDown_49 : decode cX0_bringDown 49 = .ok (.isub, 1) := of_row (r := (49, .isub, 1)) DX0_bringDown_b0 31 rfl
theorem dX0_bringDown_50 : decode cX0_bringDown 50 = .ok (.iastore, 1) := of_row (r := (50, .iastore, 1)) DX0_bringDown_b0 32 rfl
theorem dX0_bringDown_51 : decode cX0_bringDown 51 = .ok (.aload_n 0, 1) := of_row (r := (51, .aload_n 0, 1)) DX0_bringDown_b0 33 rfl
theorem dX0_bringDown_52 : decode cX0_bringDown 52 = .ok (.getfield 9, 3) := of_row (r := (52, .getfield 9, 3)) DX0_bringDown_b0 34 rfl
theorem dX0_bringDown_55 : decode cX0_bringDown 55 = .ok (.iload_n 3, 1) := of_row (r := (55, .iload_n 3, 1)) DX0_bringDown_b0 35 rfl
theorem dX0_bringDown_56 : decode cX0_bringDown 56 = .ok (.iconst 1, 1) := of_row (r := (56, .iconst 1, 1)) DX0_bringDown_b0 36 rfl
theorem dX0_bringDown_57 : decode cX0_bringDown 57 = .ok (.isub, 1) := of_row (r := (57, .isub, 1)) DX0_bringDown_b0 37 rfl
theorem dX0_bringDown_58 : decode cX0_bringDown 58 = .ok (.dup2, 1) := of_row (r := (58, .dup2, 1)) DX0_bringDown_b0 38 rfl
theorem dX0_bringDown_59 : decode cX0_bringDown 59 = .ok (.iaload, 1) := of_row (r := (59, .iaload, 1)) DX0_bringDown_b0 39 rfl
theorem dX0_bringDown_60 : decode cX0_bringDown 60 = .ok (.getstatic 23, 3) := of_row (r := (60, .getstatic 23, 3)) DX0_bringDown_b0 40 rfl
theorem dX0_bringDown_63 : decode cX0_bringDown 63 = .ok (.iload_n 3, 1) := of_row (r := (63, .iload_n 3, 1)) DX0_bringDown_b0 41 rfl
theorem dX0_bringDown_64 : decode cX0_bringDown 64 = .ok (.iconst 1, 1) := of_row (r := (64, .iconst 1, 1)) DX0_bringDown_b0 42 rfl
theorem dX0_bringDown_65 : decode cX0_bringDown 65 = .ok (.isub, 1) := of_row (r := (65, .isub, 1)) DX0_bringDown_b0 43 rfl
theorem dX0_bringDown_66 : decode cX0_bringDown 66 = .ok (.iaload, 1) := of_row (r := (66, .iaload, 1)) DX0_bringDown_b0 44 rfl
theorem dX0_bringDown_67 : decode cX0_bringDown 67 = .ok (.iadd, 1) := of_row (r := (67, .iadd, 1)) DX0_bringDown_b0 45 rfl
theorem dX0_bringDown_68 : decode cX0_bringDown 68 = .ok (.iastore, 1) := of_row (r := (68, .iastore, 1)) DX0_bringDown_b0 46 rfl
theorem dX0_bringDown_69 : decode cX0_bringDown 69 = .ok (.iinc 3 (-1), 3) := of_row (r := (69, .iinc 3 (-1), 3)) DX0_bringDown_b0 47 rfl
theorem dX0_bringDown_72 : decode cX0_bringDown 72 = .ok (.goto (-36), 3) := of_row (r := (72, .goto (-36), 3)) DX0_bringDown_b0 48 rfl
theorem dX0_bringDown_75 : decode cX0_bringDown 75 = .ok (.iload_n 2, 1) := of_row (r := (75, .iload_n 2, 1)) DX0_bringDown_b0 49 rfl
theorem dX0_bringDown_76 : decode cX0_bringDown 76 = .ok (.iload_n 1, 1) := of_row (r := (76, .iload_n 1, 1)) DX0_bringDown_b0 50 rfl
theorem dX0_bringDown_77 : decode cX0_bringDown 77 = .ok (.isub, 1) := of_row (r := (77, .isub, 1)) DX0_bringDown_b0 51 rfl
theorem dX0_bringDown_78 : decode cX0_bringDown 78 = .ok (.ireturn, 1) := of_row (r := (78, .ireturn, 1)) DX0_bringDown_b0 52 rfl
set_option maxRecDepth 20000 in
theorem DX1_init_b0 : ([(0, .aload_n 0, 1), (1, .invokespecial 3, 3), (4, .aload_n 0, 1), (5, .bipush 64, 2), (7, .newarray .int, 2), (9, .putfield 11, 3), (12, .aload_n 0, 1), (13, .bipush 40, 2), (15, .newarray .int, 2), (17, .putfield 15, 3), (20, .aload_n 0, 1), (21, .bipush 40, 2), (23, .newarray .int, 2), (25, .putfield 18, 3), (28, .aload_n 0, 1), (29, .bipush 40, 2), (31, .newarray .int, 2), (33, .putfield 21, 3), (36, .aload_n 0, 1), (37, .sipush 800, 3), (40, .newarray .int, 2), (42, .putfield 24, 3), (45, .aload_n 0, 1), (46, .aload_n 1, 1), (47, .putfield 27, 3), (50, .return_, 1)] : List (Nat × Instr × Nat)).all (fun r => decide (decode cX1_init r.1 = .ok r.2)) = true := by decide +kernel
theorem dX1_init_0 : decode cX1_init 0 = .ok (.aload_n 0, 1) := of_row (r := (0, .aload_n 0, 1)) DX1_init_b0 0 rfl
theorem dX1_init_1 : decode cX1_init 1 = .ok (.invokespecial 3, 3) := of_row (r := (1, .invokespecial 3, 3)) DX1_init_b0 1 rfl
theorem dX1_init_4 : decode cX1_init 4 = .ok (.aload_n 0, 1) := of_row (r := (4, .aload_n 0, 1)) DX1_init_b0 2 rfl
theorem dX1_init_5 : decode cX1_init 5 = .ok (.bipush 64, 2) := of_row (r := (5, .bipush 64, 2)) DX1_init_b0 3 rfl
theorem dX1_init_7 : decode cX1_init 7 = .ok (.newarray .int, 2) := of_row (r := (7, .newarray .int, 2)) DX1_init_b0 4 rfl
theorem dX1_init_9 : decode cX1_init 9 = .ok (.putfield 11, 3) := of_row (r := (9, .putfield 11, 3)) DX1_init_b0 5 rfl
theorem dX1_init_12 : decode cX1_init 12 = .ok (.aload_n 0, 1) := of_row (r := (12, .aload_n 0, 1)) DX1_init_b0 6 rfl
theorem dX1_init_13 : decode cX1_init 13 = .ok (.bipush 40, 2) := of_row (r := (13, .bipush 40, 2)) DX1_init_b0 7 rfl
theorem dX1_init_15 : decode cX1_init 15 = .ok (.newarray .int, 2) := of_row (r := (15, .newarray .int, 2)) DX1_init_b0 8 rfl
theorem dX1_init_17 : decode cX1_init 17 = .ok (.putfield 15, 3) := of_row (r := (17, .putfield 15, 3)) DX1_init_b0 9 rfl
theorem dX1_init_20 : decode cX1_init 20 = .ok (.aload_n 0, 1) := of_row (r := (20, .aload_n 0, 1)) DX1_init_b0 10 rfl
theorem dX1_init_21 : decode cX1_init 21 = .ok (.bipush 40, 2) := of_row (r := (21, .bipush 40, 2)) DX1_init_b0 11 rfl
theorem dX1_init_23 : decode cX1_init 23 = .ok (.newarray .int, 2) := of_row (r := (23, .newarray .int, 2)) DX1_init_b0 12 rfl
theorem dX1_init_25 : decode cX1_init 25 = .ok (.putfield 18, 3) := of_row (r := (25, .putfield 18, 3)) DX1_init_b0 13 rfl
theorem dX1_init_28 : decode cX1_init 28 = .ok (.aload_n 0, 1) := of_row (r := (28, .aload_n 0, 1)) DX1_init_b0 14 rfl
theorem dX1_init_29 : decode cX1_init 29 = .ok (.bipush 40, 2) := of_row (r := (29, .bipush 40, 2)) DX1_init_b0 15 rfl
theorem dX1_init_31 : decode cX1_init 31 = .ok (.newarray .int, 2) := of_row (r := (31, .newarray .int, 2)) DX1_init_b0 16 rfl
theorem dX1_init_33 : decode cX1_init 33 = .ok (.putfield 21, 3) := of_row (r := (33, .putfield 21, 3)) DX1_init_b0 17 rfl
theorem dX1_init_36 : decode cX1_init 36 = .ok (.aload_n 0, 1) := of_row (r := (36, .aload_n 0, 1)) DX1_init_b0 18 rfl
theorem dX1_init_37 : decode cX1_init 37 = .ok (.sipush 800, 3) := of_row (r := (37, .sipush 800, 3)) DX1_init_b0 19 rfl
theorem dX1_init_40 : decode cX1_init 40 = .ok (.newarray .int, 2) := of_row (r := (40, .newarray .int, 2)) DX1_init_b0 20 rfl
theorem dX1_init_42 : decode cX1_init 42 = .ok (.putfield 24, 3) := of_row (r := (42, .putfield 24, 3)) DX1_init_b0 21 rfl
theorem dX1_init_45 : decode cX1_init 45 = .ok (.aload_n 0, 1) := of_row (r := (45, .aload_n 0, 1)) DX1_init_b0 22 rfl
theorem dX1_init_46 : decode cX1_init 46 = .ok (.aload_n 1, 1) := of_row (r := (46, .aload_n 1, 1)) DX1_init_b0 23 rfl
theorem dX1_init_47 : decode cX1_init 47 = .ok (.putfield 27, 3) := of_row (r := (47, .putfield 27, 3)) DX1_init_b0 24 rfl
theorem dX1_init_50 : decode cX1_init 50 = .ok (.return_, 1) := of_row (r := (50, .return_, 1)) DX1_init_b0 25 rfl
set_option maxRecDepth 20000 in
theorem DX1_readTape_b0 : ([(0, .aload_n 0, 1), (1, .iconst 0, 1), (2, .putfield 31, 3), (5, .aload_n 0, 1), (6, .iconst 0, 1), (7, .putfield 35, 3), (10, .aload_n 0, 1), (11, .iconst 0, 1), (12, .putfield 38, 3), (15, .aload_n 0, 1), (16, .iconst 0, 1), (17, .putfield 42, 3), (20, .aload_n 0, 1), (21, .iconst 0, 1), (22, .putfield 45, 3), (25, .aload_n 0, 1), (26, .iconst 0, 1), (27, .putfield 48, 3), (30, .aload_n 0, 1), (31, .iconst 0, 1), (32, .putfield 51, 3), (35, .aload_n 0, 1), (36, .iconst 0, 1), (37, .putfield 54, 3), (40, .iconst 0, 1), (41, .istore_n 1, 1), (42, .iload_n 1, 1), (43, .sipush 800, 3), (46, .if_icmp .gt 50, 3), (49, .aload_n 0, 1), (50, .invokevirtual 57, 3), (53, .aload_n 0, 1), (54, .getfield 60, 3), (57, .iconst (-1), 1), (58, .if_icmp .ne 23, 3), (61, .aload_n 0, 1), (62, .getfield 35, 3), (65, .ifCond .ne 14, 3), (68, .aload_n 0, 1), (69, .getfield 51, 3), (72, .ifCond .le 7, 3), (75, .iconst 1, 1), (76, .goto 4, 3), (79, .iconst 0, 1), (80, .ireturn, 1), (81, .aload_n 0, 1), (82, .invokevirtual 63, 3), (85, .ifCond .ne 5, 3), (88, .iconst 0, 1), (89, .ireturn, 1), (90, .iinc 1 1, 3), (93, .goto (-51), 3), (96, .iconst 0, 1), (97, .ireturn, 1)] : List (Nat × Instr × Nat)).all (fun r => decide (decode cX1_readTape r.1 = .ok r.2)) = true := by decide +kernel
theorem dX1_readTape_0 : decode cX1_readTape 0 = .ok (.aload_n 0, 1) := of_row (r := (0, .aload_n 0, 1)) DX1_readTape_b0 0 rfl
theorem dX1_readTape_1 : decode cX1_readTape 1 = .ok (.iconst 0, 1) := of_row (r := (1, .iconst 0, 1)) DX1_readTape_b0 1 rfl
theorem dX1_readTape_2 : decode cX1_readTape 2 = .ok (.putfield 31, 3) := of_row (r := (2, .putfield 31, 3)) DX1_readTape_b0 2 rfl
theorem dX1_readTape_5 : decode cX1_readTape 5 = .ok (.aload_n 0, 1) := of_row (r := (5, .aload_n 0, 1)) DX1_readTape_b0 3 rfl
theorem dX1_readTape_6 : decode cX1_readTape 6 = .ok (.iconst 0, 1) := of_row (r := (6, .iconst 0, 1)) DX1_readTape_b0 4 rfl
theorem dX1_readTape_7 : decode cX1_readTape 7 = .ok (.putfield 35, 3) := of_row (r := (7, .putfield 35, 3)) DX1_readTape_b0 5 rfl
theorem dX1_readTape_10 : decode cX1_readTape 10 = .ok (.aload_n 0, 1) := of_row (r := (10, .aload_n 0, 1)) DX1_readTape_b0 6 rfl
theorem dX1_readTape_11 : decode cX1_readTape 11 = .ok (.iconst 0, 1) := of_row (r := (11, .iconst 0, 1)) DX1_readTape_b0 7 rfl
theorem dX1_readTape_12 : decode cX1_readTape 12 = .ok (.putfield 38, 3) := of_row (r := (12, .putfield 38, 3)) DX1_readTape_b0 8 rfl
theorem dX1_readTape_15 : decode cX1_readTape 15 = .ok (.aload_n 0, 1) := of_row (r := (15, .aload_n 0, 1)) DX1_readTape_b0 9 rfl
theorem dX1_readTape_16 : decode cX1_readTape 16 = .ok (.iconst 0, 1) := of_row (r := (16, .iconst 0, 1)) DX1_readTape_b0 10 rfl
theorem dX1_readTape_17 : decode cX1_readTape 17 = .ok (.putfield 42, 3) := of_row (r := (17, .putfield 42, 3)) DX1_readTape_b0 11 rfl
theorem dX1_readTape_20 : decode cX1_readTape 20 = .ok (.aload_n 0, 1) := of_row (r := (20, .aload_n 0, 1)) DX1_readTape_b0 12 rfl
theorem dX1_readTape_21 : decode cX1_readTape 21 = .ok (.iconst 0, 1) := of_row (r := (21, .iconst 0, 1)) DX1_readTape_b0 13 rfl
theorem dX1_readTape_22 : decode cX1_readTape 22 = .ok (.putfield 45, 3) := of_row (r := (22, .putfield 45, 3)) DX1_readTape_b0 14 rfl
theorem dX1_readTape_25 : decode cX1_readTape 25 = .ok (.aload_n 0, 1) := of_row (r := (25, .aload_n 0, 1)) DX1_readTape_b0 15 rfl
theorem dX1_readTape_26 : decode cX1_readTape 26 = .ok (.iconst 0, 1) := of_row (r := (26, .iconst 0, 1)) DX1_readTape_b0 16 rfl
theorem dX1_readTape_27 : decode cX1_readTape 27 = .ok (.putfield 48, 3) := of_row (r := (27, .putfield 48, 3)) DX1_readTape_b0 17 rfl
theorem dX1_readTape_30 : decode cX1_readTape 30 = .ok (.aload_n 0, 1) := of_row (r := (30, .aload_n 0, 1)) DX1_readTape_b0 18 rfl
theorem dX1_readTape_31 : decode cX1_readTape 31 = .ok (.iconst 0, 1) := of_row (r := (31, .iconst 0, 1)) DX1_readTape_b0 19 rfl
theorem dX1_readTape_32 : decode cX1_readTape 32 = .ok (.putfield 51, 3) := of_row (r := (32, .putfield 51, 3)) DX1_readTape_b0 20 rfl
theorem dX1_readTape_35 : decode cX1_readTape 35 = .ok (.aload_n 0, 1) := of_row (r := (35, .aload_n 0, 1)) DX1_readTape_b0 21 rfl
theorem dX1_readTape_36 : decode cX1_readTape 36 = .ok (.iconst 0, 1) := of_row (r := (36, .iconst 0, 1)) DX1_readTape_b0 22 rfl
theorem dX1_readTape_37 : decode cX1_readTape 37 = .ok (.putfield 54, 3) := of_row (r := (37, .putfield 54, 3)) DX1_readTape_b0 23 rfl
theorem dX1_readTape_40 : decode cX1_readTape 40 = .ok (.iconst 0, 1) := of_row (r := (40, .iconst 0, 1)) DX1_readTape_b0 24 rfl
theorem dX1_readTape_41 : decode cX1_readTape 41 = .ok (.istore_n 1, 1) := of_row (r := (41, .istore_n 1, 1)) DX1_readTape_b0 25 rfl
theorem dX1_readTape_42 : decode cX1_readTape 42 = .ok (.iload_n 1, 1) := of_row (r := (42, .iload_n 1, 1)) DX1_readTape_b0 26 rfl
theorem dX1_readTape_43 : decode cX1_readTape 43 = .ok (.sipush 800, 3) := of_row (r := (43, .sipush 800, 3)) DX1_readTape_b0 27 rfl
theorem dX1_readTape_46 : decode cX1_readTape 46 = .ok (.if_icmp .gt 50, 3) := of_row (r := (46, .if_icmp .gt 50, 3)) DX1_readTape_b0 28 rfl
theorem dX1_readTape_49 : decode cX1_readTape 49 = .ok (.aload_n 0, 1) := of_row (r := (49, .aload_n 0, 1)) DX1_readTape_b0 29 rfl
theorem dX1_readTape_50 : decode cX1_readTape 50 = .ok (.invokevirtual 57, 3) := of_row (r := (50, .invokevirtual 57, 3)) DX1_readTape_b0 30 rfl
theorem dX1_readTape_53 : decode cX1_readTape 53 = .ok (.aload_n 0, 1) := of_row (r := (53, .aload_n 0, 1)) DX1_readTape_b0 31 rfl
theorem dX1_readTape_54 : decode cX1_readTape 54 = .ok (.getfield 60, 3) := of_row (r := (54, .getfield 60, 3)) DX1_readTape_b0 32 rfl
theorem dX1_readTape_57 : decode cX1_readTape 57 = .ok (.iconst (-1), 1) := of_row (r := (57, .iconst (-1), 1)) DX1_readTape_b0 33 rfl
theorem dX1_readTape_58 : decode cX1_readTape 58 = .ok (.if_icmp .ne 23, 3) := of_row (r := (58, .if_icmp .ne 23, 3)) DX1_readTape_b0 34 rfl
theorem dX1_readTape_61 : decode cX1_readTape 61 = .ok (.aload_n 0, 1) := of_row (r := (61, .aload_n 0, 1)) DX1_readTape_b0 35 rfl
theorem dX1_readTape_62 : decode cX1_readTape 62 = .ok (.getfield 35, 3) := of_row (r := (62, .getfield 35, 3)) DX1_readTape_b0 36 rfl
theorem dX1_readTape_65 : decode cX1_readTape 65 = .ok (.ifCond .ne 14, 3) := of_row (r := (65, .ifCond .ne 14, 3)) DX1_readTape_b0 37 rfl
theorem dX1_readTape_68 : decode cX1_readTape 68 = .ok (.aload_n 0, 1) := of_row (r := (68, .aload_n 0, 1)) DX1_readTape_b0 38 rfl
theorem dX1_readTape_69 : decode cX1_readTape 69 = .ok (.getfield 51, 3) := of_row (r := (69, .getfield 51, 3)) DX1_readTape_b0 39 rfl
theorem dX1_readTape_72 : decode cX1_readTape 72 = .ok (.ifCond .le 7, 3) := of_row (r := (72, .ifCond .le 7, 3)) DX1_readTape_b0 40 rfl
theorem dX1_readTape_75 : decode cX1_readTape 75 = .ok (.iconst 1, 1) := of_row (r := (75, .iconst 1, 1)) DX1_readTape_b0 41 rfl
theorem dX1_readTape_76 : decode cX1_readTape 76 = .ok (.goto 4, 3) := of_row (r := (76, .goto 4, 3)) DX1_readTape_b0 42 rfl
theorem dX1_readTape_79 : decode cX1_readTape 79 = .ok (.iconst 0, 1) := of_row (r := (79, .iconst 0, 1)) DX1_readTape_b0 43 rfl
theorem dX1_readTape_80 : decode cX1_readTape 80 = .ok (.ireturn, 1) := of_row (r := (80, .ireturn, 1)) DX1_readTape_b0 44 rfl
theorem dX1_readTape_81 : decode cX1_readTape 81 = .ok (.aload_n 0, 1) := of_row (r := (81, .aload_n 0, 1)) DX1_readTape_b0 45 rfl
theorem dX1_readTape_82 : decode cX1_readTape 82 = .ok (.invokevirtual 63, 3) := of_row (r := (82, .invokevirtual 63, 3)) DX1_readTape_b0 46 rfl
theorem dX1_readTape_85 : decode cX1_readTape 85 = .ok (.ifCond .ne 5, 3) := of_row (r := (85, .ifCond .ne 5, 3)) DX1_readTape_b0 47 rfl
theorem dX1_readTape_88 : decode cX1_readTape 88 = .ok (.iconst 0, 1) := of_row (r := (88, .iconst 0, 1)) DX1_readTape_b0 48 rfl
theorem dX1_readTape_89 : decode cX1_readTape 89 = .ok (.ireturn, 1) := of_row (r := (89, .ireturn, 1)) DX1_readTape_b0 49 rfl
theorem dX1_readTape_90 : decode cX1_readTape 90 = .ok (.iinc 1 1, 3) := of_row (r := (90, .iinc 1 1, 3)) DX1_readTape_b0 50 rfl
theorem dX1_readTape_93 : decode cX1_readTape 93 = .ok (.goto (-51), 3) := of_row (r := (93, .goto (-51), 3)) DX1_readTape_b0 51 rfl
theorem dX1_readTape_96 : decode cX1_readTape 96 = .ok (.iconst 0, 1) := of_row (r := (96, .iconst 0, 1)) DX1_readTape_b0 52 rfl
theorem dX1_readTape_97 : decode cX1_readTape 97 = .ok (.ireturn, 1) := of_row (r := (97, .ireturn, 1)) DX1_readTape_b0 53 rfl
set_option maxRecDepth 20000 in
theorem DX1_lastText_b0 : ([(0, .new 67, 3), (3, .dup, 1), (4, .aload_n 0, 1), (5, .getfield 15, 3), (8, .aload_n 0, 1), (9, .getfield 51, 3), (12, .invokestatic 69, 3), (15, .aload_n 0, 1), (16, .getfield 18, 3), (19, .aload_n 0, 1), (20, .getfield 51, 3), (23, .invokestatic 69, 3), (26, .aload_n 0, 1), (27, .getfield 21, 3), (30, .aload_n 0, 1), (31, .getfield 51, 3), (34, .invokestatic 69, 3), (37, .aload_n 0, 1), (38, .getfield 24, 3), (41, .aload_n 0, 1), (42, .getfield 54, 3), (45, .invokestatic 69, 3), (48, .invokespecial 75, 3), (51, .areturn, 1)] : List (Nat × Instr × Nat)).all (fun r => decide (decode cX1_lastText r.1 = .ok r.2)) = true := by decide +kernel
theorem dX1_lastText_0 : decode cX1_lastText 0 = .ok (.new 67, 3) := of_row (r := (0, .new 67, 3)) DX1_lastText_b0 0 rfl
theorem dX1_lastText_3 : decode cX1_lastText 3 = .ok (.dup, 1) := of_row (r := (3, .dup, 1)) DX1_lastText_b0 1 rfl
theorem dX1_lastText_4 : decode cX1_lastText 4 = .ok (.aload_n 0, 1) := of_row (r := (4, .aload_n 0, 1)) DX1_lastText_b0 2 rfl
theorem dX1_lastText_5 : decode cX1_lastText 5 = .ok (.getfield 15, 3) := of_row (r := (5, .getfield 15, 3)) DX1_lastText_b0 3 rfl
theorem dX1_lastText_8 : decode cX1_lastText 8 = .ok (.aload_n 0, 1) := of_row (r := (8, .aload_n 0, 1)) DX1_lastText_b0 4 rfl
theorem dX1_lastText_9 : decode cX1_lastText 9 = .ok (.getfield 51, 3) := of_row (r := (9, .getfield 51, 3)) DX1_lastText_b0 5 rfl
theorem dX1_lastText_12 : decode cX1_lastText 12 = .ok (.invokestatic 69, 3) := of_row (r := (12, .invokestatic 69, 3)) DX1_lastText_b0 6 rfl
theorem dX1_lastText_15 : decode cX1_lastText 15 = .ok (.aload_n 0, 1) := of_row (r := (15, .aload_n 0, 1)) DX1_lastText_b0 7 rfl
theorem dX1_lastText_16 : decode cX1_lastText 16 = .ok (.getfield 18, 3) := of_row (r := (16, .getfield 18, 3)) DX1_lastText_b0 8 rfl
theorem dX1_lastText_19 : decode cX1_lastText 19 = .ok (.aload_n 0, 1) := of_row (r := (19, .aload_n 0, 1)) DX1_lastText_b0 9 rfl
theorem dX1_lastText_20 : decode cX1_lastText 20 = .ok (.getfield 51, 3) := of_row (r := (20, .getfield 51, 3)) DX1_lastText_b0 10 rfl
theorem dX1_lastText_23 : decode cX1_lastText 23 = .ok (.invokestatic 69, 3) := of_row (r := (23, .invokestatic 69, 3)) DX1_lastText_b0 11 rfl
theorem dX1_lastText_26 : decode cX1_lastText 26 = .ok (.aload_n 0, 1) := of_row (r := (26, .aload_n 0, 1)) DX1_lastText_b0 12 rfl
theorem dX1_lastText_27 : decode cX1_lastText 27 = .ok (.getfield 21, 3) := of_row (r := (27, .getfield 21, 3)) DX1_lastText_b0 13 rfl
theorem dX1_lastText_30 : decode cX1_lastText 30 = .ok (.aload_n 0, 1) := of_row (r := (30, .aload_n 0, 1)) DX1_lastText_b0 14 rfl
theorem dX1_lastText_31 : decode cX1_lastText 31 = .ok (.getfield 51, 3) := of_row (r := (31, .getfield 51, 3)) DX1_lastText_b0 15 rfl
theorem dX1_lastText_34 : decode cX1_lastText 34 = .ok (.invokestatic 69, 3) := of_row (r := (34, .invokestatic 69, 3)) DX1_lastText_b0 16 rfl
theorem dX1_lastText_37 : decode cX1_lastText 37 = .ok (.aload_n 0, 1) := of_row (r := (37, .aload_n 0, 1)) DX1_lastText_b0 17 rfl
theorem dX1_lastText_38 : decode cX1_lastText 38 = .ok (.getfield 24, 3) := of_row (r := (38, .getfield 24, 3)) DX1_lastText_b0 18 rfl
theorem dX1_lastText_41 : decode cX1_lastText 41 = .ok (.aload_n 0, 1) := of_row (r := (41, .aload_n 0, 1)) DX1_lastText_b0 19 rfl
theorem dX1_lastText_42 : decode cX1_lastText 42 = .ok (.getfield 54, 3) := of_row (r := (42, .getfield 54, 3)) DX1_lastText_b0 20 rfl
theorem dX1_lastText_45 : decode cX1_lastText 45 = .ok (.invokestatic 69, 3) := of_row (r := (45, .invokestatic 69, 3)) DX1_lastText_b0 21 rfl
theorem dX1_lastText_48 : decode cX1_lastText 48 = .ok (.invokespecial 75, 3) := of_row (r := (48, .invokespecial 75, 3)) DX1_lastText_b0 22 rfl
theorem dX1_lastText_51 : decode cX1_lastText 51 = .ok (.areturn, 1) := of_row (r := (51, .areturn, 1)) DX1_lastText_b0 23 rfl
set_option maxRecDepth 20000 in
theorem DX1_nextToken_b0 : ([(0, .aload_n 0, 1), (1, .aload_n 0, 1), (2, .getfield 31, 3), (5, .putfield 78, 3), (8, .aload_n 0, 1), (9, .getfield 78, 3), (12, .aload_n 0, 1), (13, .getfield 27, 3), (16, .getfield 81, 3), (19, .if_icmp .ge 33, 3), (22, .aload_n 0, 1), (23, .getfield 27, 3), (26, .aload_n 0, 1), (27, .getfield 78, 3), (30, .invokevirtual 86, 3), (33, .invokestatic 90, 3), (36, .ifCond .eq 16, 3), (39, .aload_n 0, 1), (40, .dup, 1), (41, .getfield 78, 3), (44, .iconst 1, 1), (45, .iadd, 1), (46, .putfield 78, 3), (49, .goto (-41), 3), (52, .aload_n 0, 1), (53, .getfield 27, 3), (56, .aload_n 0, 1), (57, .getfield 78, 3), (60, .invokevirtual 86, 3), (63, .istore_n 1, 1), (64, .aload_n 0, 1), (65, .aload_n 0, 1), (66, .getfield 78, 3), (69, .iconst 1, 1), (70, .iadd, 1), (71, .putfield 31, 3), (74, .iload_n 1, 1), (75, .invokestatic 94, 3), (78, .ifCond .eq 66, 3), (81, .aload_n 0, 1), (82, .getfield 31, 3), (85, .aload_n 0, 1), (86, .getfield 27, 3), (89, .getfield 81, 3), (92, .if_icmp .ge 33, 3), (95, .aload_n 0, 1), (96, .getfield 27, 3), (99, .aload_n 0, 1), (100, .getfield 31, 3), (103, .invokevirtual 86, 3), (106, .invokestatic 94, 3), (109, .ifCond .eq 16, 3), (112, .aload_n 0, 1), (113, .dup, 1), (114, .getfield 31, 3), (117, .iconst 1, 1), (118, .iadd, 1), (119, .putfield 31, 3), (122, .goto (-41), 3), (125, .aload_n 0, 1)] : List (Nat × Instr × Nat)).all (fun r => decide (decode cX1_nextToken r.1 = .ok r.2)) = true := by decide +kernel
theorem dX1_nextToken_0 : decode cX1_nextToken 0 = .ok (.aload_n 0, 1) := of_row (r := (0, .aload_n 0, 1)) DX1_nextToken_b0 0 rfl
theorem dX1_nextToken_1 : decode cX1_nextToken 1 = .ok (.aload_n 0, 1) := of_row (r := (1, .aload_n 0, 1)) DX1_nextToken_b0 1 rfl
theorem dX1_nextToken_2 : decode cX1_nextToken 2 = .ok (.getfield 31, 3) := of_row (r := (2, .getfield 31, 3)) DX1_nextToken_b0 2 rfl
theorem dX1_nextToken_5 : decode cX1_nextToken 5 = .ok (.putfield 78, 3) := of_row (r := (5, .putfield 78, 3)) DX1_nextToken_b0 3 rfl
theorem dX1_nextToken_8 : decode cX1_nextToken 8 = .ok (.aload_n 0, 1) := of_row (r := (8, .aload_n 0, 1)) DX1_nextToken_b0 4 rfl
theorem dX1_nextToken_9 : decode cX1_nextToken 9 = .ok (.getfield 78, 3) := of_row (r := (9, .getfield 78, 3)) DX1_nextToken_b0 5 rfl
theorem dX1_nextToken_12 : decode cX1_nextToken 12 = .ok (.aload_n 0, 1) := of_row (r := (12, .aload_n 0, 1)) DX1_nextToken_b0 6 rfl
theorem dX1_nextToken_13 : decode cX1_nextToken 13 = .ok (.getfield 27, 3) := of_row (r := (13, .getfield 27, 3)) DX1_nextToken_b0 7 rfl
theorem dX1_nextToken_16 : decode cX1_nextToken 16 = .ok (.getfield 81, 3) := of_row (r := (16, .getfield 81, 3)) DX1_nextToken_b0 8 rfl
theorem dX1_nextToken_19 : decode cX1_nextToken 19 = .ok (.if_icmp .ge 33, 3) := of_row (r := (19, .if_icmp .ge 33, 3)) DX1_nextToken_b0 9 rfl
theorem dX1_nextToken_22 : decode cX1_nextToken 22 = .ok (.aload_n 0, 1) := of_row (r := (22, .aload_n 0, 1)) DX1_nextToken_b0 10 rfl
theorem dX1_nextToken_23 : decode cX1_nextToken 23 = .ok (.getfield 27, 3) := of_row (r := (23, .getfield 27, 3)) DX1_nextToken_b0 11 rfl
theorem dX1_nextToken_26 : decode cX1_nextToken 26 = .ok (.aload_n 0, 1) := of_row (r := (26, .aload_n 0, 1)) DX1_nextToken_b0 12 rfl
theorem dX1_nextToken_27 : decode cX1_nextToken 27 = .ok (.getfield 78, 3) := of_row (r := (27, .getfield 78, 3)) DX1_nextToken_b0 13 rfl
theorem dX1_nextToken_30 : decode cX1_nextToken 30 = .ok (.invokevirtual 86, 3) := of_row (r := (30, .invokevirtual 86, 3)) DX1_nextToken_b0 14 rfl
theorem dX1_nextToken_33 : decode cX1_nextToken 33 = .ok (.invokestatic 90, 3) := of_row (r := (33, .invokestatic 90, 3)) DX1_nextToken_b0 15 rfl
theorem dX1_nextToken_36 : decode cX1_nextToken 36 = .ok (.ifCond .eq 16, 3) := of_row (r := (36, .ifCond .eq 16, 3)) DX1_nextToken_b0 16 rfl
theorem dX1_nextToken_39 : decode cX1_nextToken 39 = .ok (.aload_n 0, 1) := of_row (r := (39, .aload_n 0, 1)) DX1_nextToken_b0 17 rfl
theorem dX1_nextToken_40 : decode cX1_nextToken 40 = .ok (.dup, 1) := of_row (r := (40, .dup, 1)) DX1_nextToken_b0 18 rfl
theorem dX1_nextToken_41 : decode cX1_nextToken 41 = .ok (.getfield 78, 3) := of_row (r := (41, .getfield 78, 3)) DX1_nextToken_b0 19 rfl
theorem dX1_nextToken_44 : decode cX1_nextToken 44 = .ok (.iconst 1, 1) := of_row (r := (44, .iconst 1, 1)) DX1_nextToken_b0 20 rfl
theorem dX1_nextToken_45 : decode cX1_nextToken 45 = .ok (.iadd, 1) := of_row (r := (45, .iadd, 1)) DX1_nextToken_b0 21 rfl
theorem dX1_nextToken_46 : decode cX1_nextToken 46 = .ok (.putfield 78, 3) := of_row (r := (46, .putfield 78, 3)) DX1_nextToken_b0 22 rfl
theorem dX1_nextToken_49 : decode cX1_nextToken 49 = .ok (.goto (-41), 3) := of_row (r := (49, .goto (-41), 3)) DX1_nextToken_b0 23 rfl
theorem dX1_nextToken_52 : decode cX1_nextToken 52 = .ok (.aload_n 0, 1) := of_row (r := (52, .aload_n 0, 1)) DX1_nextToken_b0 24 rfl
theorem dX1_nextToken_53 : decode cX1_nextToken 53 = .ok (.getfield 27, 3) := of_row (r := (53, .getfield 27, 3)) DX1_nextToken_b0 25 rfl
theorem dX1_nextToken_56 : decode cX1_nextToken 56 = .ok (.aload_n 0, 1) := of_row (r := (56, .aload_n 0, 1)) DX1_nextToken_b0 26 rfl
theorem dX1_nextToken_57 : decode cX1_nextToken 57 = .ok (.getfield 78, 3) := of_row (r := (57, .getfield 78, 3)) DX1_nextToken_b0 27 rfl
theorem dX1_nextToken_60 : decode cX1_nextToken 60 = .ok (.invokevirtual 86, 3) := of_row (r := (60, .invokevirtual 86, 3)) DX1_nextToken_b0 28 rfl
theorem dX1_nextToken_63 : decode cX1_nextToken 63 = .ok (.istore_n 1, 1) := of_row (r := (63, .istore_n 1, 1)) DX1_nextToken_b0 29 rfl
theorem dX1_nextToken_64 : decode cX1_nextToken 64 = .ok (.aload_n 0, 1) := of_row (r := (64, .aload_n 0, 1)) DX1_nextToken_b0 30 rfl
theorem dX1_nextToken_65 : decode cX1_nextToken 65 = .ok (.aload_n 0, 1) := of_row (r := (65, .aload_n 0, 1)) DX1_nextToken_b0 31 rfl
theorem dX1_nextToken_66 : decode cX1_nextToken 66 = .ok (.getfield 78, 3) := of_row (r := (66, .getfield 78, 3)) DX1_nextToken_b0 32 rfl
theorem dX1_nextToken_69 : decode cX1_nextToken 69 = .ok (.iconst 1, 1) := of_row (r := (69, .iconst 1, 1)) DX1_nextToken_b0 33 rfl
theorem dX1_nextToken_70 : decode cX1_nextToken 70 = .ok (.iadd, 1) := of_row (r := (70, .iadd, 1)) DX1_nextToken_b0 34 rfl
theorem dX1_nextToken_71 : decode cX1_nextToken 71 = .ok (.putfield 31, 3) := of_row (r := (71, .putfield 31, 3)) DX1_nextToken_b0 35 rfl
theorem dX1_nextToken_74 : decode cX1_nextToken 74 = .ok (.iload_n 1, 1) := of_row (r := (74, .iload_n 1, 1)) DX1_nextToken_b0 36 rfl
theorem dX1_nextToken_75 : decode cX1_nextToken 75 = .ok (.invokestatic 94, 3) := of_row (r := (75, .invokestatic 94, 3)) DX1_nextToken_b0 37 rfl
theorem dX1_nextToken_78 : decode cX1_nextToken 78 = .ok (.ifCond .eq 66, 3) := of_row (r := (78, .ifCond .eq 66, 3)) DX1_nextToken_b0 38 rfl
theorem dX1_nextToken_81 : decode cX1_nextToken 81 = .ok (.aload_n 0, 1) := of_row (r := (81, .aload_n 0, 1)) DX1_nextToken_b0 39 rfl
theorem dX1_nextToken_82 : decode cX1_nextToken 82 = .ok (.getfield 31, 3) := of_row (r := (82, .getfield 31, 3)) DX1_nextToken_b0 40 rfl
theorem dX1_nextToken_85 : decode cX1_nextToken 85 = .ok (.aload_n 0, 1) := of_row (r := (85, .aload_n 0, 1)) DX1_nextToken_b0 41 rfl
theorem dX1_nextToken_86 : decode cX1_nextToken 86 = .ok (.getfield 27, 3) := of_row (r := (86, .getfield 27, 3)) DX1_nextToken_b0 42 rfl
theorem dX1_nextToken_89 : decode cX1_nextToken 89 = .ok (.getfield 81, 3) := of_row (r := (89, .getfield 81, 3)) DX1_nextToken_b0 43 rfl
theorem dX1_nextToken_92 : decode cX1_nextToken 92 = .ok (.if_icmp .ge 33, 3) := of_row (r := (92, .if_icmp .ge 33, 3)) DX1_nextToken_b0 44 rfl
theorem dX1_nextToken_95 : decode cX1_nextToken 95 = .ok (.aload_n 0, 1) := of_row (r := (95, .aload_n 0, 1)) DX1_nextToken_b0 45 rfl
theorem dX1_nextToken_96 : decode cX1_nextToken 96 = .ok (.getfield 27, 3) := of_row (r := (96, .getfield 27, 3)) DX1_nextToken_b0 46 rfl
theorem dX1_nextToken_99 : decode cX1_nextToken 99 = .ok (.aload_n 0, 1) := of_row (r := (99, .aload_n 0, 1)) DX1_nextToken_b0 47 rfl
theorem dX1_nextToken_100 : decode cX1_nextToken 100 = .ok (.getfield 31, 3) := of_row (r := (100, .getfield 31, 3)) DX1_nextToken_b0 48 rfl
theorem dX1_nextToken_103 : decode cX1_nextToken 103 = .ok (.invokevirtual 86, 3) := of_row (r := (103, .invokevirtual 86, 3)) DX1_nextToken_b0 49 rfl
theorem dX1_nextToken_106 : decode cX1_nextToken 106 = .ok (.invokestatic 94, 3) := of_row (r := (106, .invokestatic 94, 3)) DX1_nextToken_b0 50 rfl
theorem dX1_nextToken_109 : decode cX1_nextToken 109 = .ok (.ifCond .eq 16, 3) := of_row (r := (109, .ifCond .eq 16, 3)) DX1_nextToken_b0 51 rfl
theorem dX1_nextToken_112 : decode cX1_nextToken 112 = .ok (.aload_n 0, 1) := of_row (r := (112, .aload_n 0, 1)) DX1_nextToken_b0 52 rfl
theorem dX1_nextToken_113 : decode cX1_nextToken 113 = .ok (.dup, 1) := of_row (r := (113, .dup, 1)) DX1_nextToken_b0 53 rfl
theorem dX1_nextToken_114 : decode cX1_nextToken 114 = .ok (.getfield 31, 3) := of_row (r := (114, .getfield 31, 3)) DX1_nextToken_b0 54 rfl
theorem dX1_nextToken_117 : decode cX1_nextToken 117 = .ok (.iconst 1, 1) := of_row (r := (117, .iconst 1, 1)) DX1_nextToken_b0 55 rfl
theorem dX1_nextToken_118 : decode cX1_nextToken 118 = .ok (.iadd, 1) := of_row (r := (118, .iadd, 1)) DX1_nextToken_b0 56 rfl
theorem dX1_nextToken_119 : decode cX1_nextToken 119 = .ok (.putfield 31, 3) := of_row (r := (119, .putfield 31, 3)) DX1_nextToken_b0 57 rfl
theorem dX1_nextToken_122 : decode cX1_nextToken 122 = .ok (.goto (-41), 3) := of_row (r := (122, .goto (-41), 3)) DX1_nextToken_b0 58 rfl
theorem dX1_nextToken_125 : decode cX1_nextToken 125 = .ok (.aload_n 0, 1) := of_row (r := (125, .aload_n 0, 1)) DX1_nextToken_b0 59 rfl
set_option maxRecDepth 20000 in
theorem DX1_nextToken_b1 : ([(126, .aload_n 0, 1), (127, .aload_n 0, 1), (128, .getfield 78, 3), (131, .aload_n 0, 1), (132, .getfield 31, 3), (135, .invokevirtual 97, 3), (138, .putfield 60, 3), (141, .goto 101, 3), (144, .iload_n 1, 1), (145, .invokestatic 101, 3), (148, .ifCond .eq 72, 3), (151, .aload_n 0, 1), (152, .getfield 31, 3), (155, .aload_n 0, 1), (156, .getfield 27, 3), (159, .getfield 81, 3), (162, .if_icmp .ge 33, 3), (165, .aload_n 0, 1), (166, .getfield 27, 3), (169, .aload_n 0, 1), (170, .getfield 31, 3), (173, .invokevirtual 86, 3), (176, .invokestatic 101, 3), (179, .ifCond .eq 16, 3), (182, .aload_n 0, 1), (183, .dup, 1), (184, .getfield 31, 3), (187, .iconst 1, 1), (188, .iadd, 1), (189, .putfield 31, 3), (192, .goto (-41), 3), (195, .aload_n 0, 1), (196, .bipush 30, 2), (198, .putfield 60, 3), (201, .aload_n 0, 1), (202, .aload_n 0, 1), (203, .aload_n 0, 1), (204, .getfield 78, 3), (207, .aload_n 0, 1), (208, .getfield 31, 3), (211, .invokevirtual 104, 3), (214, .putfield 107, 3), (217, .goto 25, 3), (220, .aload_n 0, 1), (221, .iload_n 1, 1), (222, .iconst (-1), 1), (223, .if_icmp .eq 10, 3), (226, .iload_n 1, 1), (227, .invokestatic 110, 3), (230, .ifCond .eq 7, 3), (233, .iload_n 1, 1), (234, .goto 5, 3), (237, .bipush (-2), 2), (239, .putfield 60, 3), (242, .return_, 1)] : List (Nat × Instr × Nat)).all (fun r => decide (decode cX1_nextToken r.1 = .ok r.2)) = true := by decide +kernel
theorem dX1_nextToken_126 : decode cX1_nextToken 126 = .ok (.aload_n 0, 1) := of_row (r := (126, .aload_n 0, 1)) DX1_nextToken_b1 0 rfl
theorem dX1_nextToken_127 : decode cX1_nextToken 127 = .ok (.aload_n 0, 1) := of_row (r := (127, .aload_n 0, 1)) DX1_nextToken_b1 1 rfl
theorem dX1_nextToken_128 : decode cX1_nextToken 128 = .ok (.getfield 78, 3) := of_row (r := (128, .getfield 78, 3)) DX1_nextToken_b1 2 rfl
theorem dX1_nextToken_131 : decode cX1_nextToken 131 = .ok (.aload_n 0, 1) := of_row (r := (131, .aload_n 0, 1)) DX1_nextToken_b1 3 rfl
theorem dX1_nextToken_132 : decode cX1_nextToken 132 = .ok (.getfield 31, 3) := of_row (r := (132, .getfield 31, 3)) DX1_nextToken_b1 4 rfl
theorem dX1_nextToken_135 : decode cX1_nextToken 135 = .ok (.invokevirtual 97, 3) := of_row (r := (135, .invokevirtual 97, 3)) DX1_nextToken_b1 5 rfl
theorem dX1_nextToken_138 : decode cX1_nextToken 138 = .ok (.putfield 60, 3) := of_row (r := (138, .putfield 60, 3)) DX1_nextToken_b1 6 rfl
theorem dX1_nextToken_141 : decode cX1_nextToken 141 = .ok (.goto 101, 3) := of_row (r := (141, .goto 101, 3)) DX1_nextToken_b1 7 rfl
theorem dX1_nextToken_144 : decode cX1_nextToken 144 = .ok (.iload_n 1, 1) := of_row (r := (144, .iload_n 1, 1)) DX1_nextToken_b1 8 rfl
theorem dX1_nextToken_145 : decode cX1_nextToken 145 = .ok (.invokestatic 101, 3) := of_row (r := (145, .invokestatic 101, 3)) DX1_nextToken_b1 9 rfl
theorem dX1_nextToken_148 : decode cX1_nextToken 148 = .ok (.ifCond .eq 72, 3) := of_row (r := (148, .ifCond .eq 72, 3)) DX1_nextToken_b1 10 rfl
theorem dX1_nextToken_151 : decode cX1_nextToken 151 = .ok (.aload_n 0, 1) := of_row (r := (151, .aload_n 0, 1)) DX1_nextToken_b1 11 rfl
theorem dX1_nextToken_152 : decode cX1_nextToken 152 = .ok (.getfield 31, 3) := of_row (r := (152, .getfield 31, 3)) DX1_nextToken_b1 12 rfl
theorem dX1_nextToken_155 : decode cX1_nextToken 155 = .ok (.aload_n 0, 1) := of_row (r := (155, .aload_n 0, 1)) DX1_nextToken_b1 13 rfl
theorem dX1_nextToken_156 : decode cX1_nextToken 156 = .ok (.getfield 27, 3) := of_row (r := (156, .getfield 27, 3)) DX1_nextToken_b1 14 rfl
theorem dX1_nextToken_159 : decode cX1_nextToken 159 = .ok (.getfield 81, 3) := of_row (r := (159, .getfield 81, 3)) DX1_nextToken_b1 15 rfl
theorem dX1_nextToken_162 : decode cX1_nextToken 162 = .ok (.if_icmp .ge 33, 3) := of_row (r := (162, .if_icmp .ge 33, 3)) DX1_nextToken_b1 16 rfl
theorem dX1_nextToken_165 : decode cX1_nextToken 165 = .ok (.aload_n 0, 1) := of_row (r := (165, .aload_n 0, 1)) DX1_nextToken_b1 17 rfl
theorem dX1_nextToken_166 : decode cX1_nextToken 166 = .ok (.getfield 27, 3) := of_row (r := (166, .getfield 27, 3)) DX1_nextToken_b1 18 rfl
theorem dX1_nextToken_169 : decode cX1_nextToken 169 = .ok (.aload_n 0, 1) := of_row (r := (169, .aload_n 0, 1)) DX1_nextToken_b1 19 rfl
theorem dX1_nextToken_170 : decode cX1_nextToken 170 = .ok (.getfield 31, 3) := of_row (r := (170, .getfield 31, 3)) DX1_nextToken_b1 20 rfl
theorem dX1_nextToken_173 : decode cX1_nextToken 173 = .ok (.invokevirtual 86, 3) := of_row (r := (173, .invokevirtual 86, 3)) DX1_nextToken_b1 21 rfl
theorem dX1_nextToken_176 : decode cX1_nextToken 176 = .ok (.invokestatic 101, 3) := of_row (r := (176, .invokestatic 101, 3)) DX1_nextToken_b1 22 rfl
theorem dX1_nextToken_179 : decode cX1_nextToken 179 = .ok (.ifCond .eq 16, 3) := of_row (r := (179, .ifCond .eq 16, 3)) DX1_nextToken_b1 23 rfl
theorem dX1_nextToken_182 : decode cX1_nextToken 182 = .ok (.aload_n 0, 1) := of_row (r := (182, .aload_n 0, 1)) DX1_nextToken_b1 24 rfl
theorem dX1_nextToken_183 : decode cX1_nextToken 183 = .ok (.dup, 1) := of_row (r := (183, .dup, 1)) DX1_nextToken_b1 25 rfl
theorem dX1_nextToken_184 : decode cX1_nextToken 184 = .ok (.getfield 31, 3) := of_row (r := (184, .getfield 31, 3)) DX1_nextToken_b1 26 rfl
theorem dX1_nextToken_187 : decode cX1_nextToken 187 = .ok (.iconst 1, 1) := of_row (r := (187, .iconst 1, 1)) DX1_nextToken_b1 27 rfl
theorem dX1_nextToken_188 : decode cX1_nextToken 188 = .ok (.iadd, 1) := of_row (r := (188, .iadd, 1)) DX1_nextToken_b1 28 rfl
theorem dX1_nextToken_189 : decode cX1_nextToken 189 = .ok (.putfield 31, 3) := of_row (r := (189, .putfield 31, 3)) DX1_nextToken_b1 29 rfl
theorem dX1_nextToken_192 : decode cX1_nextToken 192 = .ok (.goto (-41), 3) := of_row (r := (192, .goto (-41), 3)) DX1_nextToken_b1 30 rfl
theorem dX1_nextToken_195 : decode cX1_nextToken 195 = .ok (.aload_n 0, 1) := of_row (r := (195, .aload_n 0, 1)) DX1_nextToken_b1 31 rfl
theorem dX1_nextToken_196 : decode cX1_nextToken 196 = .ok (.bipush 30, 2) := of_row (r := (196, .bipush 30, 2)) DX1_nextToken_b1 32 rfl
theorem dX1_nextToken_198 : decode cX1_nextToken 198 = .ok (.putfield 60, 3) := of_row (r := (198, .putfield 60, 3)) DX1_nextToken_b1 33 rfl
theorem dX1_nextToken_201 : decode cX1_nextToken 201 = .ok (.aload_n 0, 1) := of_row (r := (201, .aload_n 0, 1)) DX1_nextToken_b1 34 rfl
theorem dX1_nextToken_202 : decode cX1_nextToken 202 = .ok (.aload_n 0, 1) := of_row (r := (202, .aload_n 0, 1)) DX1_nextToken_b1 35 rfl
theorem dX1_nextToken_203 : decode cX1_nextToken 203 = .ok (.aload_n 0, 1) := of_row (r := (203, .aload_n 0, 1)) DX1_nextToken_b1 36 rfl
theorem dX1_nextToken_204 : decode cX1_nextToken 204 = .ok (.getfield 78, 3) := of_row (r := (204, .getfield 78, 3)) DX1_nextToken_b1 37 rfl
theorem dX1_nextToken_207 : decode cX1_nextToken 207 = .ok (.aload_n 0, 1) := of_row (r := (207, .aload_n 0, 1)) DX1_nextToken_b1 38 rfl
theorem dX1_nextToken_208 : decode cX1_nextToken 208 = .ok (.getfield 31, 3) := of_row (r := (208, .getfield 31, 3)) DX1_nextToken_b1 39 rfl
theorem dX1_nextToken_211 : decode cX1_nextToken 211 = .ok (.invokevirtual 104, 3) := of_row (r := (211, .invokevirtual 104, 3)) DX1_nextToken_b1 40 rfl
theorem dX1_nextToken_214 : decode cX1_nextToken 214 = .ok (.putfield 107, 3) := of_row (r := (214, .putfield 107, 3)) DX1_nextToken_b1 41 rfl
theorem dX1_nextToken_217 : decode cX1_nextToken 217 = .ok (.goto 25, 3) := of_row (r := (217, .goto 25, 3)) DX1_nextToken_b1 42 rfl
theorem dX1_nextToken_220 : decode cX1_nextToken 220 = .ok (.aload_n 0, 1) := of_row (r := (220, .aload_n 0, 1)) DX1_nextToken_b1 43 rfl
theorem dX1_nextToken_221 : decode cX1_nextToken 221 = .ok (.iload_n 1, 1) := of_row (r := (221, .iload_n 1, 1)) DX1_nextToken_b1 44 rfl
theorem dX1_nextToken_222 : decode cX1_nextToken 222 = .ok (.iconst (-1), 1) := of_row (r := (222, .iconst (-1), 1)) DX1_nextToken_b1 45 rfl
theorem dX1_nextToken_223 : decode cX1_nextToken 223 = .ok (.if_icmp .eq 10, 3) := of_row (r := (223, .if_icmp .eq 10, 3)) DX1_nextToken_b1 46 rfl
theorem dX1_nextToken_226 : decode cX1_nextToken 226 = .ok (.iload_n 1, 1) := of_row (r := (226, .iload_n 1, 1)) DX1_nextToken_b1 47 rfl
theorem dX1_nextToken_227 : decode cX1_nextToken 227 = .ok (.invokestatic 110, 3) := of_row (r := (227, .invokestatic 110, 3)) DX1_nextToken_b1 48 rfl
theorem dX1_nextToken_230 : decode cX1_nextToken 230 = .ok (.ifCond .eq 7, 3) := of_row (r := (230, .ifCond .eq 7, 3)) DX1_nextToken_b1 49 rfl
theorem dX1_nextToken_233 : decode cX1_nextToken 233 = .ok (.iload_n 1, 1) := of_row (r := (233, .iload_n 1, 1)) DX1_nextToken_b1 50 rfl
theorem dX1_nextToken_234 : decode cX1_nextToken 234 = .ok (.goto 5, 3) := of_row (r := (234, .goto 5, 3)) DX1_nextToken_b1 51 rfl
theorem dX1_nextToken_237 : decode cX1_nextToken 237 = .ok (.bipush (-2), 2) := of_row (r := (237, .bipush (-2), 2)) DX1_nextToken_b1 52 rfl
theorem dX1_nextToken_239 : decode cX1_nextToken 239 = .ok (.putfield 60, 3) := of_row (r := (239, .putfield 60, 3)) DX1_nextToken_b1 53 rfl
theorem dX1_nextToken_242 : decode cX1_nextToken 242 = .ok (.return_, 1) := of_row (r := (242, .return_, 1)) DX1_nextToken_b1 54 rfl
set_option maxRecDepth 20000 in
theorem DX1_isBlank_b0 : ([(0, .iload_n 0, 1), (1, .bipush 32, 2), (3, .if_icmp .eq 9, 3), (6, .iload_n 0, 1), (7, .bipush 10, 2), (9, .if_icmp .ne 7, 3), (12, .iconst 1, 1), (13, .goto 4, 3), (16, .iconst 0, 1), (17, .ireturn, 1)] : List (Nat × Instr × Nat)).all (fun r => decide (decode cX1_isBlank r.1 = .ok r.2)) = true := by decide +kernel
theorem dX1_isBlank_0 : decode cX1_isBlank 0 = .ok (.iload_n 0, 1) := of_row (r := (0, .iload_n 0, 1)) DX1_isBlank_b0 0 rfl
theorem dX1_isBlank_1 : decode cX1_isBlank 1 = .ok (.bipush 32, 2) := of_row (r := (1, .bipush 32, 2)) DX1_isBlank_b0 1 rfl
theorem dX1_isBlank_3 : decode cX1_isBlank 3 = .ok (.if_icmp .eq 9, 3) := of_row (r := (3, .if_icmp .eq 9, 3)) DX1_isBlank_b0 2 rfl
theorem dX1_isBlank_6 : decode cX1_isBlank 6 = .ok (.iload_n 0, 1) := of_row (r := (6, .iload_n 0, 1)) DX1_isBlank_b0 3 rfl
theorem dX1_isBlank_7 : decode cX1_isBlank 7 = .ok (.bipush 10, 2) := of_row (r := (7, .bipush 10, 2)) DX1_isBlank_b0 4 rfl
theorem dX1_isBlank_9 : decode cX1_isBlank 9 = .ok (.if_icmp .ne 7, 3) := of_row (r := (9, .if_icmp .ne 7, 3)) DX1_isBlank_b0 5 rfl
theorem dX1_isBlank_12 : decode cX1_isBlank 12 = .ok (.iconst 1, 1) := of_row (r := (12, .iconst 1, 1)) DX1_isBlank_b0 6 rfl
theorem dX1_isBlank_13 : decode cX1_isBlank 13 = .ok (.goto 4, 3) := of_row (r := (13, .goto 4, 3)) DX1_isBlank_b0 7 rfl
theorem dX1_isBlank_16 : decode cX1_isBlank 16 = .ok (.iconst 0, 1) := of_row (r := (16, .iconst 0, 1)) DX1_isBlank_b0 8 rfl
theorem dX1_isBlank_17 : decode cX1_isBlank 17 = .ok (.ireturn, 1) := of_row (r := (17, .ireturn, 1)) DX1_isBlank_b0 9 rfl
set_option maxRecDepth 20000 in
theorem DX1_isLetter_b0 : ([(0, .iload_n 0, 1), (1, .bipush 97, 2), (3, .if_icmp .lt 13, 3), (6, .iload_n 0, 1), (7, .bipush 122, 2), (9, .if_icmp .gt 7, 3), (12, .iconst 1, 1), (13, .goto 4, 3), (16, .iconst 0, 1), (17, .ireturn, 1)] : List (Nat × Instr × Nat)).all (fun r => decide (decode cX1_isLetter r.1 = .ok r.2)) = true := by decide +kernel
theorem dX1_isLetter_0 : decode cX1_isLetter 0 = .ok (.iload_n 0, 1) := of_row (r := (0, .iload_n 0, 1)) DX1_isLetter_b0 0 rfl
theorem dX1_isLetter_1 : decode cX1_isLetter 1 = .ok (.bipush 97, 2) := of_row (r := (1, .bipush 97, 2)) DX1_isLetter_b0 1 rfl
theorem dX1_isLetter_3 : decode cX1_isLetter 3 = .ok (.if_icmp .lt 13, 3) := of_row (r := (3, .if_icmp .lt 13, 3)) DX1_isLetter_b0 2 rfl
theorem dX1_isLetter_6 : decode cX1_isLetter 6 = .ok (.iload_n 0, 1) := of_row (r := (6, .iload_n 0, 1)) DX1_isLetter_b0 3 rfl
theorem dX1_isLetter_7 : decode cX1_isLetter 7 = .ok (.bipush 122, 2) := of_row (r := (7, .bipush 122, 2)) DX1_isLetter_b0 4 rfl
theorem dX1_isLetter_9 : decode cX1_isLetter 9 = .ok (.if_icmp .gt 7, 3) := of_row (r := (9, .if_icmp .gt 7, 3)) DX1_isLetter_b0 5 rfl
theorem dX1_isLetter_12 : decode cX1_isLetter 12 = .ok (.iconst 1, 1) := of_row (r := (12, .iconst 1, 1)) DX1_isLetter_b0 6 rfl
theorem dX1_isLetter_13 : decode cX1_isLetter 13 = .ok (.goto 4, 3) := of_row (r := (13, .goto 4, 3)) DX1_isLetter_b0 7 rfl
theorem dX1_isLetter_16 : decode cX1_isLetter 16 = .ok (.iconst 0, 1) := of_row (r := (16, .iconst 0, 1)) DX1_isLetter_b0 8 rfl
theorem dX1_isLetter_17 : decode cX1_isLetter 17 = .ok (.ireturn, 1) := of_row (r := (17, .ireturn, 1)) DX1_isLetter_b0 9 rfl
set_option maxRecDepth 20000 in
theorem DX1_isDigit_b0 : ([(0, .iload_n 0, 1), (1, .bipush 48, 2), (3, .if_icmp .lt 13, 3), (6, .iload_n 0, 1), (7, .bipush 57, 2), (9, .if_icmp .gt 7, 3), (12, .iconst 1, 1), (13, .goto 4, 3), (16, .iconst 0, 1), (17, .ireturn, 1)] : List (Nat × Instr × Nat)).all (fun r => decide (decode cX1_isDigit r.1 = .ok r.2)) = true := by decide +kernel
theorem dX1_isDigit_0 : decode cX1_isDigit 0 = .ok (.iload_n 0, 1) := of_row (r := (0, .iload_n 0, 1)) DX1_isDigit_b0 0 rfl
theorem dX1_isDigit_1 : decode cX1_isDigit 1 = .ok (.bipush 48, 2) := of_row (r := (1, .bipush 48, 2)) DX1_isDigit_b0 1 rfl
theorem dX1_isDigit_3 : decode cX1_isDigit 3 = .ok (.if_icmp .lt 13, 3) := of_row (r := (3, .if_icmp .lt 13, 3)) DX1_isDigit_b0 2 rfl
theorem dX1_isDigit_6 : decode cX1_isDigit 6 = .ok (.iload_n 0, 1) := of_row (r := (6, .iload_n 0, 1)) DX1_isDigit_b0 3 rfl
theorem dX1_isDigit_7 : decode cX1_isDigit 7 = .ok (.bipush 57, 2) := of_row (r := (7, .bipush 57, 2)) DX1_isDigit_b0 4 rfl
theorem dX1_isDigit_9 : decode cX1_isDigit 9 = .ok (.if_icmp .gt 7, 3) := of_row (r := (9, .if_icmp .gt 7, 3)) DX1_isDigit_b0 5 rfl
theorem dX1_isDigit_12 : decode cX1_isDigit 12 = .ok (.iconst 1, 1) := of_row (r := (12, .iconst 1, 1)) DX1_isDigit_b0 6 rfl
theorem dX1_isDigit_13 : decode cX1_isDigit 13 = .ok (.goto 4, 3) := of_row (r := (13, .goto 4, 3)) DX1_isDigit_b0 7 rfl
theorem dX1_isDigit_16 : decode cX1_isDigit 16 = .ok (.iconst 0, 1) := of_row (r := (16, .iconst 0, 1)) DX1_isDigit_b0 8 rfl
theorem dX1_isDigit_17 : decode cX1_isDigit 17 = .ok (.ireturn, 1) := of_row (r := (17, .ireturn, 1)) DX1_isDigit_b0 9 rfl
set_option maxRecDepth 20000 in
theorem DX1_isSign_b0 : ([(0, .iload_n 0, 1), (1, .bipush 59, 2), (3, .if_icmp .eq 29, 3), (6, .iload_n 0, 1), (7, .bipush 40, 2), (9, .if_icmp .eq 23, 3), (12, .iload_n 0, 1), (13, .bipush 41, 2), (15, .if_icmp .eq 17, 3), (18, .iload_n 0, 1), (19, .invokestatic 113, 3), (22, .ifCond .ne 10, 3), (25, .iload_n 0, 1), (26, .invokestatic 116, 3), (29, .ifCond .eq 7, 3), (32, .iconst 1, 1), (33, .goto 4, 3), (36, .iconst 0, 1), (37, .ireturn, 1)] : List (Nat × Instr × Nat)).all (fun r => decide (decode cX1_isSign r.1 = .ok r.2)) = true := by decide +kernel
theorem dX1_isSign_0 : decode cX1_isSign 0 = .ok (.iload_n 0, 1) := of_row (r := (0, .iload_n 0, 1)) DX1_isSign_b0 0 rfl
theorem dX1_isSign_1 : decode cX1_isSign 1 = .ok (.bipush 59, 2) := of_row (r := (1, .bipush 59, 2)) DX1_isSign_b0 1 rfl
theorem dX1_isSign_3 : decode cX1_isSign 3 = .ok (.if_icmp .eq 29, 3) := of_row (r := (3, .if_icmp .eq 29, 3)) DX1_isSign_b0 2 rfl
theorem dX1_isSign_6 : decode cX1_isSign 6 = .ok (.iload_n 0, 1) := of_row (r := (6, .iload_n 0, 1)) DX1_isSign_b0 3 rfl
theorem dX1_isSign_7 : decode cX1_isSign 7 = .ok (.bipush 40, 2) := of_row (r := (7, .bipush 40, 2)) DX1_isSign_b0 4 rfl
theorem dX1_isSign_9 : decode cX1_isSign 9 = .ok (.if_icmp .eq 23, 3) := of_row (r := (9, .if_icmp .eq 23, 3)) DX1_isSign_b0 5 rfl
theorem dX1_isSign_12 : decode cX1_isSign 12 = .ok (.iload_n 0, 1) := of_row (r := (12, .iload_n 0, 1)) DX1_isSign_b0 6 rfl
theorem dX1_isSign_13 : decode cX1_isSign 13 = .ok (.bipush 41, 2) := of_row (r := (13, .bipush 41, 2)) DX1_isSign_b0 7 rfl
theorem dX1_isSign_15 : decode cX1_isSign 15 = .ok (.if_icmp .eq 17, 3) := of_row (r := (15, .if_icmp .eq 17, 3)) DX1_isSign_b0 8 rfl
theorem dX1_isSign_18 : decode cX1_isSign 18 = .ok (.iload_n 0, 1) := of_row (r := (18, .iload_n 0, 1)) DX1_isSign_b0 9 rfl
theorem dX1_isSign_19 : decode cX1_isSign 19 = .ok (.invokestatic 113, 3) := of_row (r := (19, .invokestatic 113, 3)) DX1_isSign_b0 10 rfl
theorem dX1_isSign_22 : decode cX1_isSign 22 = .ok (.ifCond .ne 10, 3) := of_row (r := (22, .ifCond .ne 10, 3)) DX1_isSign_b0 11 rfl
theorem dX1_isSign_25 : decode cX1_isSign 25 = .ok (.iload_n 0, 1) := of_row (r := (25, .iload_n 0, 1)) DX1_isSign_b0 12 rfl
theorem dX1_isSign_26 : decode cX1_isSign 26 = .ok (.invokestatic 116, 3) := of_row (r := (26, .invokestatic 116, 3)) DX1_isSign_b0 13 rfl
theorem dX1_isSign_29 : decode cX1_isSign 29 = .ok (.ifCond .eq 7, 3) := of_row (r := (29, .ifCond .eq 7, 3)) DX1_isSign_b0 14 rfl
theorem dX1_isSign_32 : decode cX1_isSign 32 = .ok (.iconst 1, 1) := of_row (r := (32, .iconst 1, 1)) DX1_isSign_b0 15 rfl
theorem dX1_isSign_33 : decode cX1_isSign 33 = .ok (.goto 4, 3) := of_row (r := (33, .goto 4, 3)) DX1_isSign_b0 16 rfl
theorem dX1_isSign_36 : decode cX1_isSign 36 = .ok (.iconst 0, 1) := of_row (r := (36, .iconst 0, 1)) DX1_isSign_b0 17 rfl
theorem dX1_isSign_37 : decode cX1_isSign 37 = .ok (.ireturn, 1) := of_row (r := (37, .ireturn, 1)) DX1_isSign_b0 18 rfl
set_option maxRecDepth 20000 in
theorem DX1_isRelation_b0 : ([(0, .iload_n 0, 1), (1, .bipush 60, 2), (3, .if_icmp .eq 15, 3), (6, .iload_n 0, 1), (7, .bipush 61, 2), (9, .if_icmp .eq 9, 3), (12, .iload_n 0, 1), (13, .bipush 62, 2), (15, .if_icmp .ne 7, 3), (18, .iconst 1, 1), (19, .goto 4, 3), (22, .iconst 0, 1), (23, .ireturn, 1)] : List (Nat × Instr × Nat)).all (fun r => decide (decode cX1_isRelation r.1 = .ok r.2)) = true := by decide +kernel
theorem dX1_isRelation_0 : decode cX1_isRelation 0 = .ok (.iload_n 0, 1) := of_row (r := (0, .iload_n 0, 1)) DX1_isRelation_b0 0 rfl
theorem dX1_isRelation_1 : decode cX1_isRelation 1 = .ok (.bipush 60, 2) := of_row (r := (1, .bipush 60, 2)) DX1_isRelation_b0 1 rfl
theorem dX1_isRelation_3 : decode cX1_isRelation 3 = .ok (.if_icmp .eq 15, 3) := of_row (r := (3, .if_icmp .eq 15, 3)) DX1_isRelation_b0 2 rfl
theorem dX1_isRelation_6 : decode cX1_isRelation 6 = .ok (.iload_n 0, 1) := of_row (r := (6, .iload_n 0, 1)) DX1_isRelation_b0 3 rfl
theorem dX1_isRelation_7 : decode cX1_isRelation 7 = .ok (.bipush 61, 2) := of_row (r := (7, .bipush 61, 2)) DX1_isRelation_b0 4 rfl
theorem dX1_isRelation_9 : decode cX1_isRelation 9 = .ok (.if_icmp .eq 9, 3) := of_row (r := (9, .if_icmp .eq 9, 3)) DX1_isRelation_b0 5 rfl
theorem dX1_isRelation_12 : decode cX1_isRelation 12 = .ok (.iload_n 0, 1) := of_row (r := (12, .iload_n 0, 1)) DX1_isRelation_b0 6 rfl
theorem dX1_isRelation_13 : decode cX1_isRelation 13 = .ok (.bipush 62, 2) := of_row (r := (13, .bipush 62, 2)) DX1_isRelation_b0 7 rfl
theorem dX1_isRelation_15 : decode cX1_isRelation 15 = .ok (.if_icmp .ne 7, 3) := of_row (r := (15, .if_icmp .ne 7, 3)) DX1_isRelation_b0 8 rfl
theorem dX1_isRelation_18 : decode cX1_isRelation 18 = .ok (.iconst 1, 1) := of_row (r := (18, .iconst 1, 1)) DX1_isRelation_b0 9 rfl
theorem dX1_isRelation_19 : decode cX1_isRelation 19 = .ok (.goto 4, 3) := of_row (r := (19, .goto 4, 3)) DX1_isRelation_b0 10 rfl
theorem dX1_isRelation_22 : decode cX1_isRelation 22 = .ok (.iconst 0, 1) := of_row (r := (22, .iconst 0, 1)) DX1_isRelation_b0 11 rfl
theorem dX1_isRelation_23 : decode cX1_isRelation 23 = .ok (.ireturn, 1) := of_row (r := (23, .ireturn, 1)) DX1_isRelation_b0 12 rfl
set_option maxRecDepth 20000 in
theorem DX1_isReckoning_b0 : ([(0, .iload_n 0, 1), (1, .bipush 43, 2), (3, .if_icmp .eq 15, 3), (6, .iload_n 0, 1), (7, .bipush 45, 2), (9, .if_icmp .eq 9, 3), (12, .iload_n 0, 1), (13, .bipush 42, 2), (15, .if_icmp .ne 7, 3), (18, .iconst 1, 1), (19, .goto 4, 3), (22, .iconst 0, 1), (23, .ireturn, 1)] : List (Nat × Instr × Nat)).all (fun r => decide (decode cX1_isReckoning r.1 = .ok r.2)) = true := by decide +kernel
theorem dX1_isReckoning_0 : decode cX1_isReckoning 0 = .ok (.iload_n 0, 1) := of_row (r := (0, .iload_n 0, 1)) DX1_isReckoning_b0 0 rfl
theorem dX1_isReckoning_1 : decode cX1_isReckoning 1 = .ok (.bipush 43, 2) := of_row (r := (1, .bipush 43, 2)) DX1_isReckoning_b0 1 rfl
theorem dX1_isReckoning_3 : decode cX1_isReckoning 3 = .ok (.if_icmp .eq 15, 3) := of_row (r := (3, .if_icmp .eq 15, 3)) DX1_isReckoning_b0 2 rfl
theorem dX1_isReckoning_6 : decode cX1_isReckoning 6 = .ok (.iload_n 0, 1) := of_row (r := (6, .iload_n 0, 1)) DX1_isReckoning_b0 3 rfl
theorem dX1_isReckoning_7 : decode cX1_isReckoning 7 = .ok (.bipush 45, 2) := of_row (r := (7, .bipush 45, 2)) DX1_isReckoning_b0 4 rfl
theorem dX1_isReckoning_9 : decode cX1_isReckoning 9 = .ok (.if_icmp .eq 9, 3) := of_row (r := (9, .if_icmp .eq 9, 3)) DX1_isReckoning_b0 5 rfl
theorem dX1_isReckoning_12 : decode cX1_isReckoning 12 = .ok (.iload_n 0, 1) := of_row (r := (12, .iload_n 0, 1)) DX1_isReckoning_b0 6 rfl
theorem dX1_isReckoning_13 : decode cX1_isReckoning 13 = .ok (.bipush 42, 2) := of_row (r := (13, .bipush 42, 2)) DX1_isReckoning_b0 7 rfl
theorem dX1_isReckoning_15 : decode cX1_isReckoning 15 = .ok (.if_icmp .ne 7, 3) := of_row (r := (15, .if_icmp .ne 7, 3)) DX1_isReckoning_b0 8 rfl
theorem dX1_isReckoning_18 : decode cX1_isReckoning 18 = .ok (.iconst 1, 1) := of_row (r := (18, .iconst 1, 1)) DX1_isReckoning_b0 9 rfl
theorem dX1_isReckoning_19 : decode cX1_isReckoning 19 = .ok (.goto 4, 3) := of_row (r := (19, .goto 4, 3)) DX1_isReckoning_b0 10 rfl
theorem dX1_isReckoning_22 : decode cX1_isReckoning 22 = .ok (.iconst 0, 1) := of_row (r := (22, .iconst 0, 1)) DX1_isReckoning_b0 11 rfl
theorem dX1_isReckoning_23 : decode cX1_isReckoning 23 = .ok (.ireturn, 1) := of_row (r := (23, .ireturn, 1)) DX1_isReckoning_b0 12 rfl
set_option maxRecDepth 20000 in
theorem DX1_wordAt_b0 : ([(0, .iconst 0, 1), (1, .istore_n 3, 1), (2, .iload_n 3, 1), (3, .iconst 1, 1), (4, .iadd, 1), (5, .bipush 8, 2), (7, .imul, 1), (8, .ldc 119, 2), (10, .invokevirtual 121, 3), (13, .if_icmp .gt 24, 3), (16, .aload_n 0, 1), (17, .iload_n 3, 1), (18, .bipush 8, 2), (20, .imul, 1), (21, .iload_n 1, 1), (22, .iload_n 2, 1), (23, .invokevirtual 126, 3), (26, .ifCond .eq 5, 3), (29, .iload_n 3, 1), (30, .ireturn, 1), (31, .iinc 3 1, 3), (34, .goto (-32), 3), (37, .bipush (-2), 2), (39, .ireturn, 1)] : List (Nat × Instr × Nat)).all (fun r => decide (decode cX1_wordAt r.1 = .ok r.2)) = true := by decide +kernel
theorem dX1_wordAt_0 : decode cX1_wordAt 0 = .ok (.iconst 0, 1) := of_row (r := (0, .iconst 0, 1)) DX1_wordAt_b0 0 rfl
theorem dX1_wordAt_1 : decode cX1_wordAt 1 = .ok (.istore_n 3, 1) := of_row (r := (1, .istore_n 3, 1)) DX1_wordAt_b0 1 rfl
theorem dX1_wordAt_2 : decode cX1_wordAt 2 = .ok (.iload_n 3, 1) := of_row (r := (2, .iload_n 3, 1)) DX1_wordAt_b0 2 rfl
theorem dX1_wordAt_3 : decode cX1_wordAt 3 = .ok (.iconst 1, 1) := of_row (r := (3, .iconst 1, 1)) DX1_wordAt_b0 3 rfl
theorem dX1_wordAt_4 : decode cX1_wordAt 4 = .ok (.iadd, 1) := of_row (r := (4, .iadd, 1)) DX1_wordAt_b0 4 rfl
theorem dX1_wordAt_5 : decode cX1_wordAt 5 = .ok (.bipush 8, 2) := of_row (r := (5, .bipush 8, 2)) DX1_wordAt_b0 5 rfl
theorem dX1_wordAt_7 : decode cX1_wordAt 7 = .ok (.imul, 1) := of_row (r := (7, .imul, 1)) DX1_wordAt_b0 6 rfl
theorem dX1_wordAt_8 : decode cX1_wordAt 8 = .ok (.ldc 119, 2) := of_row (r := (8, .ldc 119, 2)) DX1_wordAt_b0 7 rfl
theorem dX1_wordAt_10 : decode cX1_wordAt 10 = .ok (.invokevirtual 121, 3) := of_row (r := (10, .invokevirtual 121, 3)) DX1_wordAt_b0 8 rfl
theorem dX1_wordAt_13 : decode cX1_wordAt 13 = .ok (.if_icmp .gt 24, 3) := of_row (r := (13, .if_icmp .gt 24, 3)) DX1_wordAt_b0 9 rfl
theorem dX1_wordAt_16 : decode cX1_wordAt 16 = .ok (.aload_n 0, 1) := of_row (r := (16, .aload_n 0, 1)) DX1_wordAt_b0 10 rfl
theorem dX1_wordAt_17 : decode cX1_wordAt 17 = .ok (.iload_n 3, 1) := of_row (r := (17, .iload_n 3, 1)) DX1_wordAt_b0 11 rfl
theorem dX1_wordAt_18 : decode cX1_wordAt 18 = .ok (.bipush 8, 2) := of_row (r := (18, .bipush 8, 2)) DX1_wordAt_b0 12 rfl
theorem dX1_wordAt_20 : decode cX1_wordAt 20 = .ok (.imul, 1) := of_row (r := (20, .imul, 1)) DX1_wordAt_b0 13 rfl
theorem dX1_wordAt_21 : decode cX1_wordAt 21 = .ok (.iload_n 1, 1) := of_row (r := (21, .iload_n 1, 1)) DX1_wordAt_b0 14 rfl
theorem dX1_wordAt_22 : decode cX1_wordAt 22 = .ok (.iload_n 2, 1) := of_row (r := (22, .iload_n 2, 1)) DX1_wordAt_b0 15 rfl
theorem dX1_wordAt_23 : decode cX1_wordAt 23 = .ok (.invokevirtual 126, 3) := of_row (r := (23, .invokevirtual 126, 3)) DX1_wordAt_b0 16 rfl
theorem dX1_wordAt_26 : decode cX1_wordAt 26 = .ok (.ifCond .eq 5, 3) := of_row (r := (26, .ifCond .eq 5, 3)) DX1_wordAt_b0 17 rfl
theorem dX1_wordAt_29 : decode cX1_wordAt 29 = .ok (.iload_n 3, 1) := of_row (r := (29, .iload_n 3, 1)) DX1_wordAt_b0 18 rfl
theorem dX1_wordAt_30 : decode cX1_wordAt 30 = .ok (.ireturn, 1) := of_row (r := (30, .ireturn, 1)) DX1_wordAt_b0 19 rfl
theorem dX1_wordAt_31 : decode cX1_wordAt 31 = .ok (.iinc 3 1, 3) := of_row (r := (31, .iinc 3 1, 3)) DX1_wordAt_b0 20 rfl
theorem dX1_wordAt_34 : decode cX1_wordAt 34 = .ok (.goto (-32), 3) := of_row (r := (34, .goto (-32), 3)) DX1_wordAt_b0 21 rfl
theorem dX1_wordAt_37 : decode cX1_wordAt 37 = .ok (.bipush (-2), 2) := of_row (r := (37, .bipush (-2), 2)) DX1_wordAt_b0 22 rfl
theorem dX1_wordAt_39 : decode cX1_wordAt 39 = .ok (.ireturn, 1) := of_row (r := (39, .ireturn, 1)) DX1_wordAt_b0 23 rfl
set_option maxRecDepth 20000 in
theorem DX1_isWord_b0 : ([(0, .iload_n 1, 1), (1, .ifCond .lt 23, 3), (4, .iload_n 1, 1), (5, .bipush 8, 2), (7, .iadd, 1), (8, .ldc 119, 2), (10, .invokevirtual 121, 3), (13, .if_icmp .gt 11, 3), (16, .iload_n 3, 1), (17, .iload_n 2, 1), (18, .isub, 1), (19, .bipush 8, 2), (21, .if_icmp .le 5, 3), (24, .iconst 0, 1), (25, .ireturn, 1), (26, .iconst 0, 1), (27, .istore 4, 2), (29, .iload 4, 2), (31, .bipush 8, 2), (33, .if_icmp .ge 51, 3), (36, .iload_n 2, 1), (37, .iload 4, 2), (39, .iadd, 1), (40, .iload_n 3, 1), (41, .if_icmp .ge 17, 3), (44, .aload_n 0, 1), (45, .getfield 27, 3), (48, .iload_n 2, 1), (49, .iload 4, 2), (51, .iadd, 1), (52, .invokevirtual 86, 3), (55, .goto 5, 3), (58, .bipush 32, 2), (60, .istore 5, 2), (62, .iload 5, 2), (64, .ldc 119, 2), (66, .iload_n 1, 1), (67, .iload 4, 2), (69, .iadd, 1), (70, .invokevirtual 130, 3), (73, .if_icmp .eq 5, 3), (76, .iconst 0, 1), (77, .ireturn, 1), (78, .iinc 4 1, 3), (81, .goto (-52), 3), (84, .iconst 1, 1), (85, .ireturn, 1)] : List (Nat × Instr × Nat)).all (fun r => decide (decode cX1_isWord r.1 = .ok r.2)) = true := by decide +kernel
theorem dX1_isWord_0 : decode cX1_isWord 0 = .ok (.iload_n 1, 1) := of_row (r := (0, .iload_n 1, 1)) DX1_isWord_b0 0 rfl
theorem dX1_isWord_1 : decode cX1_isWord 1 = .ok (.ifCond .lt 23, 3) := of_row (r := (1, .ifCond .lt 23, 3)) DX1_isWord_b0 1 rfl
theorem dX1_isWord_4 : decode cX1_isWord 4 = .ok (.iload_n 1, 1) := of_row (r := (4, .iload_n 1, 1)) DX1_isWord_b0 2 rfl
theorem dX1_isWord_5 : decode cX1_isWord 5 = .ok (.bipush 8, 2) := of_row (r := (5, .bipush 8, 2)) DX1_isWord_b0 3 rfl
theorem dX1_isWord_7 : decode cX1_isWord 7 = .ok (.iadd, 1) := of_row (r := (7, .iadd, 1)) DX1_isWord_b0 4 rfl
theorem dX1_isWord_8 : decode cX1_isWord 8 = .ok (.ldc 119, 2) := of_row (r := (8, .ldc 119, 2)) DX1_isWord_b0 5 rfl
theorem dX1_isWord_10 : decode cX1_isWord 10 = .ok (.invokevirtual 121, 3) := of_row (r := (10, .invokevirtual 121, 3)) DX1_isWord_b0 6 rfl
theorem dX1_isWord_13 : decode cX1_isWord 13 = .ok (.if_icmp .gt 11, 3) := of_row (r := (13, .if_icmp .gt 11, 3)) DX1_isWord_b0 7 rfl
theorem dX1_isWord_16 : decode cX1_isWord 16 = .ok (.iload_n 3, 1) := of_row (r := (16, .iload_n 3, 1)) DX1_isWord_b0 8 rfl
theorem dX1_isWord_17 : decode cX1_isWord 17 = .ok (.iload_n 2, 1) := of_row (r := (17, .iload_n 2, 1)) DX1_isWord_b0 9 rfl
theorem dX1_isWord_18 : decode cX1_isWord 18 = .ok (.isub, 1) := of_row (r := (18, .isub, 1)) DX1_isWord_b0 10 rfl
theorem dX1_isWord_19 : decode cX1_isWord 19 = .ok (.bipush 8, 2) := of_row (r := (19, .bipush 8, 2)) DX1_isWord_b0 11 rfl
theorem dX1_isWord_21 : decode cX1_isWord 21 = .ok (.if_icmp .le 5, 3) := of_row (r := (21, .if_icmp .le 5, 3)) DX1_isWord_b0 12 rfl
theorem dX1_isWord_24 : decode cX1_isWord 24 = .ok (.iconst 0, 1) := of_row (r := (24, .iconst 0, 1)) DX1_isWord_b0 13 rfl
theorem dX1_isWord_25 : decode cX1_isWord 25 = .ok (.ireturn, 1) := of_row (r := (25, .ireturn, 1)) DX1_isWord_b0 14 rfl
theorem dX1_isWord_26 : decode cX1_isWord 26 = .ok (.iconst 0, 1) := of_row (r := (26, .iconst 0, 1)) DX1_isWord_b0 15 rfl
theorem dX1_isWord_27 : decode cX1_isWord 27 = .ok (.istore 4, 2) := of_row (r := (27, .istore 4, 2)) DX1_isWord_b0 16 rfl
theorem dX1_isWord_29 : decode cX1_isWord 29 = .ok (.iload 4, 2) := of_row (r := (29, .iload 4, 2)) DX1_isWord_b0 17 rfl
theorem dX1_isWord_31 : decode cX1_isWord 31 = .ok (.bipush 8, 2) := of_row (r := (31, .bipush 8, 2)) DX1_isWord_b0 18 rfl
theorem dX1_isWord_33 : decode cX1_isWord 33 = .ok (.if_icmp .ge 51, 3) := of_row (r := (33, .if_icmp .ge 51, 3)) DX1_isWord_b0 19 rfl
theorem dX1_isWord_36 : decode cX1_isWord 36 = .ok (.iload_n 2, 1) := of_row (r := (36, .iload_n 2, 1)) DX1_isWord_b0 20 rfl
theorem dX1_isWord_37 : decode cX1_isWord 37 = .ok (.iload 4, 2) := of_row (r := (37, .iload 4, 2)) DX1_isWord_b0 21 rfl
theorem dX1_isWord_39 : decode cX1_isWord 39 = .ok (.iadd, 1) := of_row (r := (39, .iadd, 1)) DX1_isWord_b0 22 rfl
theorem dX1_isWord_40 : decode cX1_isWord 40 = .ok (.iload_n 3, 1) := of_row (r := (40, .iload_n 3, 1)) DX1_isWord_b0 23 rfl
theorem dX1_isWord_41 : decode cX1_isWord 41 = .ok (.if_icmp .ge 17, 3) := of_row (r := (41, .if_icmp .ge 17, 3)) DX1_isWord_b0 24 rfl
theorem dX1_isWord_44 : decode cX1_isWord 44 = .ok (.aload_n 0, 1) := of_row (r := (44, .aload_n 0, 1)) DX1_isWord_b0 25 rfl
theorem dX1_isWord_45 : decode cX1_isWord 45 = .ok (.getfield 27, 3) := of_row (r := (45, .getfield 27, 3)) DX1_isWord_b0 26 rfl
theorem dX1_isWord_48 : decode cX1_isWord 48 = .ok (.iload_n 2, 1) := of_row (r := (48, .iload_n 2, 1)) DX1_isWord_b0 27 rfl
theorem dX1_isWord_49 : decode cX1_isWord 49 = .ok (.iload 4, 2) := of_row (r := (49, .iload 4, 2)) DX1_isWord_b0 28 rfl
theorem dX1_isWord_51 : decode cX1_isWord 51 = .ok (.iadd, 1) := of_row (r := (51, .iadd, 1)) DX1_isWord_b0 29 rfl
theorem dX1_isWord_52 : decode cX1_isWord 52 = .ok (.invokevirtual 86, 3) := of_row (r := (52, .invokevirtual 86, 3)) DX1_isWord_b0 30 rfl
theorem dX1_isWord_55 : decode cX1_isWord 55 = .ok (.goto 5, 3) := of_row (r := (55, .goto 5, 3)) DX1_isWord_b0 31 rfl
theorem dX1_isWord_58 : decode cX1_isWord 58 = .ok (.bipush 32, 2) := of_row (r := (58, .bipush 32, 2)) DX1_isWord_b0 32 rfl
theorem dX1_isWord_60 : decode cX1_isWord 60 = .ok (.istore 5, 2) := of_row (r := (60, .istore 5, 2)) DX1_isWord_b0 33 rfl
theorem dX1_isWord_62 : decode cX1_isWord 62 = .ok (.iload 5, 2) := of_row (r := (62, .iload 5, 2)) DX1_isWord_b0 34 rfl
theorem dX1_isWord_64 : decode cX1_isWord 64 = .ok (.ldc 119, 2) := of_row (r := (64, .ldc 119, 2)) DX1_isWord_b0 35 rfl
theorem dX1_isWord_66 : decode cX1_isWord 66 = .ok (.iload_n 1, 1) := of_row (r := (66, .iload_n 1, 1)) DX1_isWord_b0 36 rfl
theorem dX1_isWord_67 : decode cX1_isWord 67 = .ok (.iload 4, 2) := of_row (r := (67, .iload 4, 2)) DX1_isWord_b0 37 rfl
theorem dX1_isWord_69 : decode cX1_isWord 69 = .ok (.iadd, 1) := of_row (r := (69, .iadd, 1)) DX1_isWord_b0 38 rfl
theorem dX1_isWord_70 : decode cX1_isWord 70 = .ok (.invokevirtual 130, 3) := of_row (r := (70, .invokevirtual 130, 3)) DX1_isWord_b0 39 rfl
theorem dX1_isWord_73 : decode cX1_isWord 73 = .ok (.if_icmp .eq 5, 3) := of_row (r := (73, .if_icmp .eq 5, 3)) DX1_isWord_b0 40 rfl
theorem dX1_isWord_76 : decode cX1_isWord 76 = .ok (.iconst 0, 1) := of_row (r := (76, .iconst 0, 1)) DX1_isWord_b0 41 rfl
theorem dX1_isWord_77 : decode cX1_isWord 77 = .ok (.ireturn, 1) := of_row (r := (77, .ireturn, 1)) DX1_isWord_b0 42 rfl
theorem dX1_isWord_78 : decode cX1_isWord 78 = .ok (.iinc 4 1, 3) := of_row (r := (78, .iinc 4 1, 3)) DX1_isWord_b0 43 rfl
theorem dX1_isWord_81 : decode cX1_isWord 81 = .ok (.goto (-52), 3) := of_row (r := (81, .goto (-52), 3)) DX1_isWord_b0 44 rfl
theorem dX1_isWord_84 : decode cX1_isWord 84 = .ok (.iconst 1, 1) := of_row (r := (84, .iconst 1, 1)) DX1_isWord_b0 45 rfl
theorem dX1_isWord_85 : decode cX1_isWord 85 = .ok (.ireturn, 1) := of_row (r := (85, .ireturn, 1)) DX1_isWord_b0 46 rfl
set_option maxRecDepth 20000 in
theorem DX1_numberAt_b0 : ([(0, .iconst 0, 1), (1, .istore_n 3, 1), (2, .iload_n 1, 1), (3, .istore 4, 2), (5, .iload 4, 2), (7, .iload_n 2, 1), (8, .if_icmp .ge 32, 3), (11, .iload_n 3, 1), (12, .bipush 10, 2), (14, .imul, 1), (15, .aload_n 0, 1), (16, .getfield 27, 3), (19, .iload 4, 2), (21, .invokevirtual 86, 3), (24, .iadd, 1), (25, .bipush 48, 2), (27, .isub, 1), (28, .ldc 134, 2), (30, .invokestatic 135, 3), (33, .istore_n 3, 1), (34, .iinc 4 1, 3), (37, .goto (-32), 3), (40, .iload_n 3, 1), (41, .ireturn, 1)] : List (Nat × Instr × Nat)).all (fun r => decide (decode cX1_numberAt r.1 = .ok r.2)) = true := by decide +kernel
theorem dX1_numberAt_0 : decode cX1_numberAt 0 = .ok (.iconst 0, 1) := of_row (r := (0, .iconst 0, 1)) DX1_numberAt_b0 0 rfl
theorem dX1_numberAt_1 : decode cX1_numberAt 1 = .ok (.istore_n 3, 1) := of_row (r := (1, .istore_n 3, 1)) DX1_numberAt_b0 1 rfl
theorem dX1_numberAt_2 : decode cX1_numberAt 2 = .ok (.iload_n 1, 1) := of_row (r := (2, .iload_n 1, 1)) DX1_numberAt_b0 2 rfl
theorem dX1_numberAt_3 : decode cX1_numberAt 3 = .ok (.istore 4, 2) := of_row (r := (3, .istore 4, 2)) DX1_numberAt_b0 3 rfl
theorem dX1_numberAt_5 : decode cX1_numberAt 5 = .ok (.iload 4, 2) := of_row (r := (5, .iload 4, 2)) DX1_numberAt_b0 4 rfl
theorem dX1_numberAt_7 : decode cX1_numberAt 7 = .ok (.iload_n 2, 1) := of_row (r := (7, .iload_n 2, 1)) DX1_numberAt_b0 5 rfl
theorem dX1_numberAt_8 : decode cX1_numberAt 8 = .ok (.if_icmp .ge 32, 3) := of_row (r := (8, .if_icmp .ge 32, 3)) DX1_numberAt_b0 6 rfl
theorem dX1_numberAt_11 : decode cX1_numberAt 11 = .ok (.iload_n 3, 1) := of_row (r := (11, .iload_n 3, 1)) DX1_numberAt_b0 7 rfl
theorem dX1_numberAt_12 : decode cX1_numberAt 12 = .ok (.bipush 10, 2) := of_row (r := (12, .bipush 10, 2)) DX1_numberAt_b0 8 rfl
theorem dX1_numberAt_14 : decode cX1_numberAt 14 = .ok (.imul, 1) := of_row (r := (14, .imul, 1)) DX1_numberAt_b0 9 rfl
theorem dX1_numberAt_15 : decode cX1_numberAt 15 = .ok (.aload_n 0, 1) := of_row (r := (15, .aload_n 0, 1)) DX1_numberAt_b0 10 rfl
theorem dX1_numberAt_16 : decode cX1_numberAt 16 = .ok (.getfield 27, 3) := of_row (r := (16, .getfield 27, 3)) DX1_numberAt_b0 11 rfl
theorem dX1_numberAt_19 : decode cX1_numberAt 19 = .ok (.iload 4, 2) := of_row (r := (19, .iload 4, 2)) DX1_numberAt_b0 12 rfl
theorem dX1_numberAt_21 : decode cX1_numberAt 21 = .ok (.invokevirtual 86, 3) := of_row (r := (21, .invokevirtual 86, 3)) DX1_numberAt_b0 13 rfl
theorem dX1_numberAt_24 : decode cX1_numberAt 24 = .ok (.iadd, 1) := of_row (r := (24, .iadd, 1)) DX1_numberAt_b0 14 rfl
theorem dX1_numberAt_25 : decode cX1_numberAt 25 = .ok (.bipush 48, 2) := of_row (r := (25, .bipush 48, 2)) DX1_numberAt_b0 15 rfl
theorem dX1_numberAt_27 : decode cX1_numberAt 27 = .ok (.isub, 1) := of_row (r := (27, .isub, 1)) DX1_numberAt_b0 16 rfl
theorem dX1_numberAt_28 : decode cX1_numberAt 28 = .ok (.ldc 134, 2) := of_row (r := (28, .ldc 134, 2)) DX1_numberAt_b0 17 rfl
theorem dX1_numberAt_30 : decode cX1_numberAt 30 = .ok (.invokestatic 135, 3) := of_row (r := (30, .invokestatic 135, 3)) DX1_numberAt_b0 18 rfl
theorem dX1_numberAt_33 : decode cX1_numberAt 33 = .ok (.istore_n 3, 1) := of_row (r := (33, .istore_n 3, 1)) DX1_numberAt_b0 19 rfl
theorem dX1_numberAt_34 : decode cX1_numberAt 34 = .ok (.iinc 4 1, 3) := of_row (r := (34, .iinc 4 1, 3)) DX1_numberAt_b0 20 rfl
theorem dX1_numberAt_37 : decode cX1_numberAt 37 = .ok (.goto (-32), 3) := of_row (r := (37, .goto (-32), 3)) DX1_numberAt_b0 21 rfl
theorem dX1_numberAt_40 : decode cX1_numberAt 40 = .ok (.iload_n 3, 1) := of_row (r := (40, .iload_n 3, 1)) DX1_numberAt_b0 22 rfl
theorem dX1_numberAt_41 : decode cX1_numberAt 41 = .ok (.ireturn, 1) := of_row (r := (41, .ireturn, 1)) DX1_numberAt_b0 23 rfl
set_option maxRecDepth 20000 in
theorem DX1_accepts_b0 : ([(0, .aload_n 0, 1), (1, .getfield 35, 3), (4, .tableswitch 79 0 6 #[44, 49, 54, 59, 64, 69, 74], 44), (48, .aload_n 0, 1), (49, .invokevirtual 140, 3), (52, .ireturn, 1), (53, .aload_n 0, 1), (54, .invokevirtual 143, 3), (57, .ireturn, 1), (58, .aload_n 0, 1), (59, .invokevirtual 146, 3), (62, .ireturn, 1), (63, .aload_n 0, 1), (64, .invokevirtual 149, 3), (67, .ireturn, 1), (68, .aload_n 0, 1), (69, .invokevirtual 152, 3), (72, .ireturn, 1), (73, .aload_n 0, 1), (74, .invokevirtual 155, 3), (77, .ireturn, 1), (78, .aload_n 0, 1), (79, .invokevirtual 158, 3), (82, .ireturn, 1), (83, .aload_n 0, 1), (84, .invokevirtual 161, 3), (87, .ireturn, 1)] : List (Nat × Instr × Nat)).all (fun r => decide (decode cX1_accepts r.1 = .ok r.2)) = true := by decide +kernel
theorem dX1_accepts_0 : decode cX1_accepts 0 = .ok (.aload_n 0, 1) := of_row (r := (0, .aload_n 0, 1)) DX1_accepts_b0 0 rfl
theorem dX1_accepts_1 : decode cX1_accepts 1 = .ok (.getfield 35, 3) := of_row (r := (1, .getfield 35, 3)) DX1_accepts_b0 1 rfl
theorem dX1_accepts_4 : decode cX1_accepts 4 = .ok (.tableswitch 79 0 6 #[44, 49, 54, 59, 64, 69, 74], 44) := of_row (r := (4, .tableswitch 79 0 6 #[44, 49, 54, 59, 64, 69, 74], 44)) DX1_accepts_b0 2 rfl
theorem dX1_accepts_48 : decode cX1_accepts 48 = .ok (.aload_n 0, 1) := of_row (r := (48, .aload_n 0, 1)) DX1_accepts_b0 3 rfl
theorem dX1_accepts_49 : decode cX1_accepts 49 = .ok (.invokevirtual 140, 3) := of_row (r := (49, .invokevirtual 140, 3)) DX1_accepts_b0 4 rfl
theorem dX1_accepts_52 : decode cX1_accepts 52 = .ok (.ireturn, 1) := of_row (r := (52, .ireturn, 1)) DX1_accepts_b0 5 rfl
theorem dX1_accepts_53 : decode cX1_accepts 53 = .ok (.aload_n 0, 1) := of_row (r := (53, .aload_n 0, 1)) DX1_accepts_b0 6 rfl
theorem dX1_accepts_54 : decode cX1_accepts 54 = .ok (.invokevirtual 143, 3) := of_row (r := (54, .invokevirtual 143, 3)) DX1_accepts_b0 7 rfl
theorem dX1_accepts_57 : decode cX1_accepts 57 = .ok (.ireturn, 1) := of_row (r := (57, .ireturn, 1)) DX1_accepts_b0 8 rfl
theorem dX1_accepts_58 : decode cX1_accepts 58 = .ok (.aload_n 0, 1) := of_row (r := (58, .aload_n 0, 1)) DX1_accepts_b0 9 rfl
theorem dX1_accepts_59 : decode cX1_accepts 59 = .ok (.invokevirtual 146, 3) := of_row (r := (59, .invokevirtual 146, 3)) DX1_accepts_b0 10 rfl
theorem dX1_accepts_62 : decode cX1_accepts 62 = .ok (.ireturn, 1) := of_row (r := (62, .ireturn, 1)) DX1_accepts_b0 11 rfl
theorem dX1_accepts_63 : decode cX1_accepts 63 = .ok (.aload_n 0, 1) := of_row (r := (63, .aload_n 0, 1)) DX1_accepts_b0 12 rfl
theorem dX1_accepts_64 : decode cX1_accepts 64 = .ok (.invokevirtual 149, 3) := of_row (r := (64, .invokevirtual 149, 3)) DX1_accepts_b0 13 rfl
theorem dX1_accepts_67 : decode cX1_accepts 67 = .ok (.ireturn, 1) := of_row (r := (67, .ireturn, 1)) DX1_accepts_b0 14 rfl
theorem dX1_accepts_68 : decode cX1_accepts 68 = .ok (.aload_n 0, 1) := of_row (r := (68, .aload_n 0, 1)) DX1_accepts_b0 15 rfl
theorem dX1_accepts_69 : decode cX1_accepts 69 = .ok (.invokevirtual 152, 3) := of_row (r := (69, .invokevirtual 152, 3)) DX1_accepts_b0 16 rfl
theorem dX1_accepts_72 : decode cX1_accepts 72 = .ok (.ireturn, 1) := of_row (r := (72, .ireturn, 1)) DX1_accepts_b0 17 rfl
theorem dX1_accepts_73 : decode cX1_accepts 73 = .ok (.aload_n 0, 1) := of_row (r := (73, .aload_n 0, 1)) DX1_accepts_b0 18 rfl
theorem dX1_accepts_74 : decode cX1_accepts 74 = .ok (.invokevirtual 155, 3) := of_row (r := (74, .invokevirtual 155, 3)) DX1_accepts_b0 19 rfl
theorem dX1_accepts_77 : decode cX1_accepts 77 = .ok (.ireturn, 1) := of_row (r := (77, .ireturn, 1)) DX1_accepts_b0 20 rfl
theorem dX1_accepts_78 : decode cX1_accepts 78 = .ok (.aload_n 0, 1) := of_row (r := (78, .aload_n 0, 1)) DX1_accepts_b0 21 rfl
theorem dX1_accepts_79 : decode cX1_accepts 79 = .ok (.invokevirtual 158, 3) := of_row (r := (79, .invokevirtual 158, 3)) DX1_accepts_b0 22 rfl
theorem dX1_accepts_82 : decode cX1_accepts 82 = .ok (.ireturn, 1) := of_row (r := (82, .ireturn, 1)) DX1_accepts_b0 23 rfl
theorem dX1_accepts_83 : decode cX1_accepts 83 = .ok (.aload_n 0, 1) := of_row (r := (83, .aload_n 0, 1)) DX1_accepts_b0 24 rfl
theorem dX1_accepts_84 : decode cX1_accepts 84 = .ok (.invokevirtual 161, 3) := of_row (r := (84, .invokevirtual 161, 3)) DX1_accepts_b0 25 rfl
theorem dX1_accepts_87 : decode cX1_accepts 87 = .ok (.ireturn, 1) := of_row (r := (87, .ireturn, 1)) DX1_accepts_b0 26 rfl
set_option maxRecDepth 20000 in
theorem DX1_acceptsStatement_b0 : ([(0, .aload_n 0, 1), (1, .getfield 51, 3), (4, .bipush 40, 2), (6, .if_icmp .lt 5, 3), (9, .iconst 0, 1), (10, .ireturn, 1), (11, .aload_n 0, 1), (12, .getfield 21, 3), (15, .aload_n 0, 1), (16, .getfield 51, 3), (19, .aload_n 0, 1), (20, .getfield 54, 3), (23, .iastore, 1), (24, .aload_n 0, 1), (25, .getfield 60, 3), (28, .bipush 6, 2), (30, .if_icmp .eq 8, 3), (33, .aload_n 0, 1), (34, .invokevirtual 143, 3), (37, .ireturn, 1), (38, .aload_n 0, 1), (39, .iconst 4, 1), (40, .putfield 35, 3), (43, .iconst 1, 1), (44, .ireturn, 1)] : List (Nat × Instr × Nat)).all (fun r => decide (decode cX1_acceptsStatement r.1 = .ok r.2)) = true := by decide +kernel
theorem dX1_acceptsStatement_0 : decode cX1_acceptsStatement 0 = .ok (.aload_n 0, 1) := of_row (r := (0, .aload_n 0, 1)) DX1_acceptsStatement_b0 0 rfl
theorem dX1_acceptsStatement_1 : decode cX1_acceptsStatement 1 = .ok (.getfield 51, 3) := of_row (r := (1, .getfield 51, 3)) DX1_acceptsStatement_b0 1 rfl
theorem dX1_acceptsStatement_4 : decode cX1_acceptsStatement 4 = .ok (.bipush 40, 2) := of_row (r := (4, .bipush 40, 2)) DX1_acceptsStatement_b0 2 rfl
theorem dX1_acceptsStatement_6 : decode cX1_acceptsStatement 6 = .ok (.if_icmp .lt 5, 3) := of_row (r := (6, .if_icmp .lt 5, 3)) DX1_acceptsStatement_b0 3 rfl
theorem dX1_acceptsStatement_9 : decode cX1_acceptsStatement 9 = .ok (.iconst 0, 1) := of_row (r := (9, .iconst 0, 1)) DX1_acceptsStatement_b0 4 rfl
theorem dX1_acceptsStatement_10 : decode cX1_acceptsStatement 10 = .ok (.ireturn, 1) := of_row (r := (10, .ireturn, 1)) DX1_acceptsStatement_b0 5 rfl
theorem dX1_acceptsStatement_11 : decode cX1_acceptsStatement 11 = .ok (.aload_n 0, 1) := of_row (r := (11, .aload_n 0, 1)) DX1_acceptsStatement_b0 6 rfl
theorem dX1_acceptsStatement_12 : decode cX1_acceptsStatement 12 = .ok (.getfield 21, 3) := of_row (r := (12, .getfield 21, 3)) DX1_acceptsStatement_b0 7 rfl
theorem dX1_acceptsStatement_15 : decode cX1_acceptsStatement 15 = .ok (.aload_n 0, 1) := of_row (r := (15, .aload_n 0, 1)) DX1_acceptsStatement_b0 8 rfl
theorem dX1_acceptsStatement_16 : decode cX1_acceptsStatement 16 = .ok (.getfield 51, 3) := of_row (r := (16, .getfield 51, 3)) DX1_acceptsStatement_b0 9 rfl
theorem dX1_acceptsStatement_19 : decode cX1_acceptsStatement 19 = .ok (.aload_n 0, 1) := of_row (r := (19, .aload_n 0, 1)) DX1_acceptsStatement_b0 10 rfl
theorem dX1_acceptsStatement_20 : decode cX1_acceptsStatement 20 = .ok (.getfield 54, 3) := of_row (r := (20, .getfield 54, 3)) DX1_acceptsStatement_b0 11 rfl
theorem dX1_acceptsStatement_23 : decode cX1_acceptsStatement 23 = .ok (.iastore, 1) := of_row (r := (23, .iastore, 1)) DX1_acceptsStatement_b0 12 rfl
theorem dX1_acceptsStatement_24 : decode cX1_acceptsStatement 24 = .ok (.aload_n 0, 1) := of_row (r := (24, .aload_n 0, 1)) DX1_acceptsStatement_b0 13 rfl
theorem dX1_acceptsStatement_25 : decode cX1_acceptsStatement 25 = .ok (.getfield 60, 3) := of_row (r := (25, .getfield 60, 3)) DX1_acceptsStatement_b0 14 rfl
theorem dX1_acceptsStatement_28 : decode cX1_acceptsStatement 28 = .ok (.bipush 6, 2) := of_row (r := (28, .bipush 6, 2)) DX1_acceptsStatement_b0 15 rfl
theorem dX1_acceptsStatement_30 : decode cX1_acceptsStatement 30 = .ok (.if_icmp .eq 8, 3) := of_row (r := (30, .if_icmp .eq 8, 3)) DX1_acceptsStatement_b0 16 rfl
theorem dX1_acceptsStatement_33 : decode cX1_acceptsStatement 33 = .ok (.aload_n 0, 1) := of_row (r := (33, .aload_n 0, 1)) DX1_acceptsStatement_b0 17 rfl
theorem dX1_acceptsStatement_34 : decode cX1_acceptsStatement 34 = .ok (.invokevirtual 143, 3) := of_row (r := (34, .invokevirtual 143, 3)) DX1_acceptsStatement_b0 18 rfl
theorem dX1_acceptsStatement_37 : decode cX1_acceptsStatement 37 = .ok (.ireturn, 1) := of_row (r := (37, .ireturn, 1)) DX1_acceptsStatement_b0 19 rfl
theorem dX1_acceptsStatement_38 : decode cX1_acceptsStatement 38 = .ok (.aload_n 0, 1) := of_row (r := (38, .aload_n 0, 1)) DX1_acceptsStatement_b0 20 rfl
theorem dX1_acceptsStatement_39 : decode cX1_acceptsStatement 39 = .ok (.iconst 4, 1) := of_row (r := (39, .iconst 4, 1)) DX1_acceptsStatement_b0 21 rfl
theorem dX1_acceptsStatement_40 : decode cX1_acceptsStatement 40 = .ok (.putfield 35, 3) := of_row (r := (40, .putfield 35, 3)) DX1_acceptsStatement_b0 22 rfl
theorem dX1_acceptsStatement_43 : decode cX1_acceptsStatement 43 = .ok (.iconst 1, 1) := of_row (r := (43, .iconst 1, 1)) DX1_acceptsStatement_b0 23 rfl
theorem dX1_acceptsStatement_44 : decode cX1_acceptsStatement 44 = .ok (.ireturn, 1) := of_row (r := (44, .ireturn, 1)) DX1_acceptsStatement_b0 24 rfl
set_option maxRecDepth 20000 in
theorem DX1_acceptsAct_b0 : ([(0, .aload_n 0, 1), (1, .getfield 60, 3), (4, .ifCond .lt 20, 3), (7, .aload_n 0, 1), (8, .getfield 60, 3), (11, .iconst 5, 1), (12, .if_icmp .gt 12, 3), (15, .aload_n 0, 1), (16, .getfield 51, 3), (19, .bipush 40, 2), (21, .if_icmp .lt 5, 3), (24, .iconst 0, 1), (25, .ireturn, 1), (26, .aload_n 0, 1), (27, .getfield 15, 3), (30, .aload_n 0, 1), (31, .getfield 51, 3), (34, .aload_n 0, 1), (35, .getfield 60, 3), (38, .iastore, 1), (39, .aload_n 0, 1), (40, .getfield 18, 3), (43, .aload_n 0, 1), (44, .getfield 51, 3), (47, .aload_n 0, 1), (48, .getfield 60, 3), (51, .ifCond .ne 8, 3), (54, .bipush 100, 2), (56, .goto 4, 3), (59, .iconst 0, 1), (60, .iastore, 1), (61, .aload_n 0, 1), (62, .aload_n 0, 1), (63, .getfield 60, 3), (66, .iconst 1, 1), (67, .if_icmp .ne 7, 3), (70, .iconst 2, 1), (71, .goto 4, 3), (74, .iconst 3, 1), (75, .putfield 35, 3), (78, .iconst 1, 1), (79, .ireturn, 1)] : List (Nat × Instr × Nat)).all (fun r => decide (decode cX1_acceptsAct r.1 = .ok r.2)) = true := by decide +kernel
theorem dX1_acceptsAct_0 : decode cX1_acceptsAct 0 = .ok (.aload_n 0, 1) := of_row (r := (0, .aload_n 0, 1)) DX1_acceptsAct_b0 0 rfl
theorem dX1_acceptsAct_1 : decode cX1_acceptsAct 1 = .ok (.getfield 60, 3) := of_row (r := (1, .getfield 60, 3)) DX1_acceptsAct_b0 1 rfl
theorem dX1_acceptsAct_4 : decode cX1_acceptsAct 4 = .ok (.ifCond .lt 20, 3) := of_row (r := (4, .ifCond .lt 20, 3)) DX1_acceptsAct_b0 2 rfl
theorem dX1_acceptsAct_7 : decode cX1_acceptsAct 7 = .ok (.aload_n 0, 1) := of_row (r := (7, .aload_n 0, 1)) DX1_acceptsAct_b0 3 rfl
theorem dX1_acceptsAct_8 : decode cX1_acceptsAct 8 = .ok (.getfield 60, 3) := of_row (r := (8, .getfield 60, 3)) DX1_acceptsAct_b0 4 rfl
theorem dX1_acceptsAct_11 : decode cX1_acceptsAct 11 = .ok (.iconst 5, 1) := of_row (r := (11, .iconst 5, 1)) DX1_acceptsAct_b0 5 rfl
theorem dX1_acceptsAct_12 : decode cX1_acceptsAct 12 = .ok (.if_icmp .gt 12, 3) := of_row (r := (12, .if_icmp .gt 12, 3)) DX1_acceptsAct_b0 6 rfl
theorem dX1_acceptsAct_15 : decode cX1_acceptsAct 15 = .ok (.aload_n 0, 1) := of_row (r := (15, .aload_n 0, 1)) DX1_acceptsAct_b0 7 rfl
theorem dX1_acceptsAct_16 : decode cX1_acceptsAct 16 = .ok (.getfield 51, 3) := of_row (r := (16, .getfield 51, 3)) DX1_acceptsAct_b0 8 rfl
theorem dX1_acceptsAct_19 : decode cX1_acceptsAct 19 = .ok (.bipush 40, 2) := of_row (r := (19, .bipush 40, 2)) DX1_acceptsAct_b0 9 rfl
theorem dX1_acceptsAct_21 : decode cX1_acceptsAct 21 = .ok (.if_icmp .lt 5, 3) := of_row (r := (21, .if_icmp .lt 5, 3)) DX1_acceptsAct_b0 10 rfl
theorem dX1_acceptsAct_24 : decode cX1_acceptsAct 24 = .ok (.iconst 0, 1) := of_row (r := (24, .iconst 0, 1)) DX1_acceptsAct_b0 11 rfl
theorem dX1_acceptsAct_25 : decode cX1_acceptsAct 25 = .ok (.ireturn, 1) := of_row (r := (25, .ireturn, 1)) DX1_acceptsAct_b0 12 rfl
theorem dX1_acceptsAct_26 : decode cX1_acceptsAct 26 = .ok (.aload_n 0, 1) := of_row (r := (26, .aload_n 0, 1)) DX1_acceptsAct_b0 13 rfl
theorem dX1_acceptsAct_27 : decode cX1_acceptsAct 27 = .ok (.getfield 15, 3) := of_row (r := (27, .getfield 15, 3)) DX1_acceptsAct_b0 14 rfl
theorem dX1_acceptsAct_30 : decode cX1_acceptsAct 30 = .ok (.aload_n 0, 1) := of_row (r := (30, .aload_n 0, 1)) DX1_acceptsAct_b0 15 rfl
theorem dX1_acceptsAct_31 : decode cX1_acceptsAct 31 = .ok (.getfield 51, 3) := of_row (r := (31, .getfield 51, 3)) DX1_acceptsAct_b0 16 rfl
theorem dX1_acceptsAct_34 : decode cX1_acceptsAct 34 = .ok (.aload_n 0, 1) := of_row (r := (34, .aload_n 0, 1)) DX1_acceptsAct_b0 17 rfl
theorem dX1_acceptsAct_35 : decode cX1_acceptsAct 35 = .ok (.getfield 60, 3) := of_row (r := (35, .getfield 60, 3)) DX1_acceptsAct_b0 18 rfl
theorem dX1_acceptsAct_38 : decode cX1_acceptsAct 38 = .ok (.iastore, 1) := of_row (r := (38, .iastore, 1)) DX1_acceptsAct_b0 19 rfl
theorem dX1_acceptsAct_39 : decode cX1_acceptsAct 39 = .ok (.aload_n 0, 1) := of_row (r := (39, .aload_n 0, 1)) DX1_acceptsAct_b0 20 rfl
theorem dX1_acceptsAct_40 : decode cX1_acceptsAct 40 = .ok (.getfield 18, 3) := of_row (r := (40, .getfield 18, 3)) DX1_acceptsAct_b0 21 rfl
theorem dX1_acceptsAct_43 : decode cX1_acceptsAct 43 = .ok (.aload_n 0, 1) := of_row (r := (43, .aload_n 0, 1)) DX1_acceptsAct_b0 22 rfl
theorem dX1_acceptsAct_44 : decode cX1_acceptsAct 44 = .ok (.getfield 51, 3) := of_row (r := (44, .getfield 51, 3)) DX1_acceptsAct_b0 23 rfl
theorem dX1_acceptsAct_47 : decode cX1_acceptsAct 47 = .ok (.aload_n 0, 1) := of_row (r := (47, .aload_n 0, 1)) DX1_acceptsAct_b0 24 rfl
theorem dX1_acceptsAct_48 : decode cX1_acceptsAct 48 = .ok (.getfield 60, 3) := of_row (r := (48, .getfield 60, 3)) DX1_acceptsAct_b0 25 rfl
theorem dX1_acceptsAct_51 : decode cX1_acceptsAct 51 = .ok (.ifCond .ne 8, 3) := of_row (r := (51, .ifCond .ne 8, 3)) DX1_acceptsAct_b0 26 rfl
theorem dX1_acceptsAct_54 : decode cX1_acceptsAct 54 = .ok (.bipush 100, 2) := of_row (r := (54, .bipush 100, 2)) DX1_acceptsAct_b0 27 rfl
theorem dX1_acceptsAct_56 : decode cX1_acceptsAct 56 = .ok (.goto 4, 3) := of_row (r := (56, .goto 4, 3)) DX1_acceptsAct_b0 28 rfl
theorem dX1_acceptsAct_59 : decode cX1_acceptsAct 59 = .ok (.iconst 0, 1) := of_row (r := (59, .iconst 0, 1)) DX1_acceptsAct_b0 29 rfl
theorem dX1_acceptsAct_60 : decode cX1_acceptsAct 60 = .ok (.iastore, 1) := of_row (r := (60, .iastore, 1)) DX1_acceptsAct_b0 30 rfl
theorem dX1_acceptsAct_61 : decode cX1_acceptsAct 61 = .ok (.aload_n 0, 1) := of_row (r := (61, .aload_n 0, 1)) DX1_acceptsAct_b0 31 rfl
theorem dX1_acceptsAct_62 : decode cX1_acceptsAct 62 = .ok (.aload_n 0, 1) := of_row (r := (62, .aload_n 0, 1)) DX1_acceptsAct_b0 32 rfl
theorem dX1_acceptsAct_63 : decode cX1_acceptsAct 63 = .ok (.getfield 60, 3) := of_row (r := (63, .getfield 60, 3)) DX1_acceptsAct_b0 33 rfl
theorem dX1_acceptsAct_66 : decode cX1_acceptsAct 66 = .ok (.iconst 1, 1) := of_row (r := (66, .iconst 1, 1)) DX1_acceptsAct_b0 34 rfl
theorem dX1_acceptsAct_67 : decode cX1_acceptsAct 67 = .ok (.if_icmp .ne 7, 3) := of_row (r := (67, .if_icmp .ne 7, 3)) DX1_acceptsAct_b0 35 rfl
theorem dX1_acceptsAct_70 : decode cX1_acceptsAct 70 = .ok (.iconst 2, 1) := of_row (r := (70, .iconst 2, 1)) DX1_acceptsAct_b0 36 rfl
theorem dX1_acceptsAct_71 : decode cX1_acceptsAct 71 = .ok (.goto 4, 3) := of_row (r := (71, .goto 4, 3)) DX1_acceptsAct_b0 37 rfl
theorem dX1_acceptsAct_74 : decode cX1_acceptsAct 74 = .ok (.iconst 3, 1) := of_row (r := (74, .iconst 3, 1)) DX1_acceptsAct_b0 38 rfl
theorem dX1_acceptsAct_75 : decode cX1_acceptsAct 75 = .ok (.putfield 35, 3) := of_row (r := (75, .putfield 35, 3)) DX1_acceptsAct_b0 39 rfl
theorem dX1_acceptsAct_78 : decode cX1_acceptsAct 78 = .ok (.iconst 1, 1) := of_row (r := (78, .iconst 1, 1)) DX1_acceptsAct_b0 40 rfl
theorem dX1_acceptsAct_79 : decode cX1_acceptsAct 79 = .ok (.ireturn, 1) := of_row (r := (79, .ireturn, 1)) DX1_acceptsAct_b0 41 rfl
set_option maxRecDepth 20000 in
theorem DX1_acceptsShare_b0 : ([(0, .aload_n 0, 1), (1, .getfield 60, 3), (4, .bipush 30, 2), (6, .if_icmp .ne 29, 3), (9, .aload_n 0, 1), (10, .getfield 107, 3), (13, .iconst 1, 1), (14, .if_icmp .lt 21, 3), (17, .aload_n 0, 1), (18, .getfield 107, 3), (21, .bipush 100, 2), (23, .if_icmp .gt 12, 3), (26, .aload_n 0, 1), (27, .getfield 51, 3), (30, .bipush 40, 2), (32, .if_icmp .lt 5, 3), (35, .iconst 0, 1), (36, .ireturn, 1), (37, .aload_n 0, 1), (38, .getfield 18, 3), (41, .aload_n 0, 1), (42, .getfield 51, 3), (45, .aload_n 0, 1), (46, .getfield 107, 3), (49, .iastore, 1), (50, .aload_n 0, 1), (51, .iconst 3, 1), (52, .putfield 35, 3), (55, .iconst 1, 1), (56, .ireturn, 1)] : List (Nat × Instr × Nat)).all (fun r => decide (decode cX1_acceptsShare r.1 = .ok r.2)) = true := by decide +kernel
theorem dX1_acceptsShare_0 : decode cX1_acceptsShare 0 = .ok (.aload_n 0, 1) := of_row (r := (0, .aload_n 0, 1)) DX1_acceptsShare_b0 0 rfl
theorem dX1_acceptsShare_1 : decode cX1_acceptsShare 1 = .ok (.getfield 60, 3) := of_row (r := (1, .getfield 60, 3)) DX1_acceptsShare_b0 1 rfl
theorem dX1_acceptsShare_4 : decode cX1_acceptsShare 4 = .ok (.bipush 30, 2) := of_row (r := (4, .bipush 30, 2)) DX1_acceptsShare_b0 2 rfl
theorem dX1_acceptsShare_6 : decode cX1_acceptsShare 6 = .ok (.if_icmp .ne 29, 3) := of_row (r := (6, .if_icmp .ne 29, 3)) DX1_acceptsShare_b0 3 rfl
theorem dX1_acceptsShare_9 : decode cX1_acceptsShare 9 = .ok (.aload_n 0, 1) := of_row (r := (9, .aload_n 0, 1)) DX1_acceptsShare_b0 4 rfl
theorem dX1_acceptsShare_10 : decode cX1_acceptsShare 10 = .ok (.getfield 107, 3) := of_row (r := (10, .getfield 107, 3)) DX1_acceptsShare_b0 5 rfl
theorem dX1_acceptsShare_13 : decode cX1_acceptsShare 13 = .ok (.iconst 1, 1) := of_row (r := (13, .iconst 1, 1)) DX1_acceptsShare_b0 6 rfl
theorem dX1_acceptsShare_14 : decode cX1_acceptsShare 14 = .ok (.if_icmp .lt 21, 3) := of_row (r := (14, .if_icmp .lt 21, 3)) DX1_acceptsShare_b0 7 rfl
theorem dX1_acceptsShare_17 : decode cX1_acceptsShare 17 = .ok (.aload_n 0, 1) := of_row (r := (17, .aload_n 0, 1)) DX1_acceptsShare_b0 8 rfl
theorem dX1_acceptsShare_18 : decode cX1_acceptsShare 18 = .ok (.getfield 107, 3) := of_row (r := (18, .getfield 107, 3)) DX1_acceptsShare_b0 9 rfl
theorem dX1_acceptsShare_21 : decode cX1_acceptsShare 21 = .ok (.bipush 100, 2) := of_row (r := (21, .bipush 100, 2)) DX1_acceptsShare_b0 10 rfl
theorem dX1_acceptsShare_23 : decode cX1_acceptsShare 23 = .ok (.if_icmp .gt 12, 3) := of_row (r := (23, .if_icmp .gt 12, 3)) DX1_acceptsShare_b0 11 rfl
theorem dX1_acceptsShare_26 : decode cX1_acceptsShare 26 = .ok (.aload_n 0, 1) := of_row (r := (26, .aload_n 0, 1)) DX1_acceptsShare_b0 12 rfl
theorem dX1_acceptsShare_27 : decode cX1_acceptsShare 27 = .ok (.getfield 51, 3) := of_row (r := (27, .getfield 51, 3)) DX1_acceptsShare_b0 13 rfl
theorem dX1_acceptsShare_30 : decode cX1_acceptsShare 30 = .ok (.bipush 40, 2) := of_row (r := (30, .bipush 40, 2)) DX1_acceptsShare_b0 14 rfl
theorem dX1_acceptsShare_32 : decode cX1_acceptsShare 32 = .ok (.if_icmp .lt 5, 3) := of_row (r := (32, .if_icmp .lt 5, 3)) DX1_acceptsShare_b0 15 rfl
theorem dX1_acceptsShare_35 : decode cX1_acceptsShare 35 = .ok (.iconst 0, 1) := of_row (r := (35, .iconst 0, 1)) DX1_acceptsShare_b0 16 rfl
theorem dX1_acceptsShare_36 : decode cX1_acceptsShare 36 = .ok (.ireturn, 1) := of_row (r := (36, .ireturn, 1)) DX1_acceptsShare_b0 17 rfl
theorem dX1_acceptsShare_37 : decode cX1_acceptsShare 37 = .ok (.aload_n 0, 1) := of_row (r := (37, .aload_n 0, 1)) DX1_acceptsShare_b0 18 rfl
theorem dX1_acceptsShare_38 : decode cX1_acceptsShare 38 = .ok (.getfield 18, 3) := of_row (r := (38, .getfield 18, 3)) DX1_acceptsShare_b0 19 rfl
theorem dX1_acceptsShare_41 : decode cX1_acceptsShare 41 = .ok (.aload_n 0, 1) := of_row (r := (41, .aload_n 0, 1)) DX1_acceptsShare_b0 20 rfl
theorem dX1_acceptsShare_42 : decode cX1_acceptsShare 42 = .ok (.getfield 51, 3) := of_row (r := (42, .getfield 51, 3)) DX1_acceptsShare_b0 21 rfl
theorem dX1_acceptsShare_45 : decode cX1_acceptsShare 45 = .ok (.aload_n 0, 1) := of_row (r := (45, .aload_n 0, 1)) DX1_acceptsShare_b0 22 rfl
theorem dX1_acceptsShare_46 : decode cX1_acceptsShare 46 = .ok (.getfield 107, 3) := of_row (r := (46, .getfield 107, 3)) DX1_acceptsShare_b0 23 rfl
theorem dX1_acceptsShare_49 : decode cX1_acceptsShare 49 = .ok (.iastore, 1) := of_row (r := (49, .iastore, 1)) DX1_acceptsShare_b0 24 rfl
theorem dX1_acceptsShare_50 : decode cX1_acceptsShare 50 = .ok (.aload_n 0, 1) := of_row (r := (50, .aload_n 0, 1)) DX1_acceptsShare_b0 25 rfl
theorem dX1_acceptsShare_51 : decode cX1_acceptsShare 51 = .ok (.iconst 3, 1) := of_row (r := (51, .iconst 3, 1)) DX1_acceptsShare_b0 26 rfl
theorem dX1_acceptsShare_52 : decode cX1_acceptsShare 52 = .ok (.putfield 35, 3) := of_row (r := (52, .putfield 35, 3)) DX1_acceptsShare_b0 27 rfl
theorem dX1_acceptsShare_55 : decode cX1_acceptsShare 55 = .ok (.iconst 1, 1) := of_row (r := (55, .iconst 1, 1)) DX1_acceptsShare_b0 28 rfl
theorem dX1_acceptsShare_56 : decode cX1_acceptsShare 56 = .ok (.ireturn, 1) := of_row (r := (56, .ireturn, 1)) DX1_acceptsShare_b0 29 rfl
set_option maxRecDepth 20000 in
theorem DX1_acceptsClose_b0 : ([(0, .aload_n 0, 1), (1, .getfield 60, 3), (4, .bipush 59, 2), (6, .if_icmp .eq 5, 3), (9, .iconst 0, 1), (10, .ireturn, 1), (11, .aload_n 0, 1), (12, .dup, 1), (13, .getfield 51, 3), (16, .iconst 1, 1), (17, .iadd, 1), (18, .putfield 51, 3), (21, .aload_n 0, 1), (22, .iconst 0, 1), (23, .putfield 35, 3), (26, .iconst 1, 1), (27, .ireturn, 1)] : List (Nat × Instr × Nat)).all (fun r => decide (decode cX1_acceptsClose r.1 = .ok r.2)) = true := by decide +kernel
theorem dX1_acceptsClose_0 : decode cX1_acceptsClose 0 = .ok (.aload_n 0, 1) := of_row (r := (0, .aload_n 0, 1)) DX1_acceptsClose_b0 0 rfl
theorem dX1_acceptsClose_1 : decode cX1_acceptsClose 1 = .ok (.getfield 60, 3) := of_row (r := (1, .getfield 60, 3)) DX1_acceptsClose_b0 1 rfl
theorem dX1_acceptsClose_4 : decode cX1_acceptsClose 4 = .ok (.bipush 59, 2) := of_row (r := (4, .bipush 59, 2)) DX1_acceptsClose_b0 2 rfl
theorem dX1_acceptsClose_6 : decode cX1_acceptsClose 6 = .ok (.if_icmp .eq 5, 3) := of_row (r := (6, .if_icmp .eq 5, 3)) DX1_acceptsClose_b0 3 rfl
theorem dX1_acceptsClose_9 : decode cX1_acceptsClose 9 = .ok (.iconst 0, 1) := of_row (r := (9, .iconst 0, 1)) DX1_acceptsClose_b0 4 rfl
theorem dX1_acceptsClose_10 : decode cX1_acceptsClose 10 = .ok (.ireturn, 1) := of_row (r := (10, .ireturn, 1)) DX1_acceptsClose_b0 5 rfl
theorem dX1_acceptsClose_11 : decode cX1_acceptsClose 11 = .ok (.aload_n 0, 1) := of_row (r := (11, .aload_n 0, 1)) DX1_acceptsClose_b0 6 rfl
theorem dX1_acceptsClose_12 : decode cX1_acceptsClose 12 = .ok (.dup, 1) := of_row (r := (12, .dup, 1)) DX1_acceptsClose_b0 7 rfl
theorem dX1_acceptsClose_13 : decode cX1_acceptsClose 13 = .ok (.getfield 51, 3) := of_row (r := (13, .getfield 51, 3)) DX1_acceptsClose_b0 8 rfl
theorem dX1_acceptsClose_16 : decode cX1_acceptsClose 16 = .ok (.iconst 1, 1) := of_row (r := (16, .iconst 1, 1)) DX1_acceptsClose_b0 9 rfl
theorem dX1_acceptsClose_17 : decode cX1_acceptsClose 17 = .ok (.iadd, 1) := of_row (r := (17, .iadd, 1)) DX1_acceptsClose_b0 10 rfl
theorem dX1_acceptsClose_18 : decode cX1_acceptsClose 18 = .ok (.putfield 51, 3) := of_row (r := (18, .putfield 51, 3)) DX1_acceptsClose_b0 11 rfl
theorem dX1_acceptsClose_21 : decode cX1_acceptsClose 21 = .ok (.aload_n 0, 1) := of_row (r := (21, .aload_n 0, 1)) DX1_acceptsClose_b0 12 rfl
theorem dX1_acceptsClose_22 : decode cX1_acceptsClose 22 = .ok (.iconst 0, 1) := of_row (r := (22, .iconst 0, 1)) DX1_acceptsClose_b0 13 rfl
theorem dX1_acceptsClose_23 : decode cX1_acceptsClose 23 = .ok (.putfield 35, 3) := of_row (r := (23, .putfield 35, 3)) DX1_acceptsClose_b0 14 rfl
theorem dX1_acceptsClose_26 : decode cX1_acceptsClose 26 = .ok (.iconst 1, 1) := of_row (r := (26, .iconst 1, 1)) DX1_acceptsClose_b0 15 rfl
theorem dX1_acceptsClose_27 : decode cX1_acceptsClose 27 = .ok (.ireturn, 1) := of_row (r := (27, .ireturn, 1)) DX1_acceptsClose_b0 16 rfl
set_option maxRecDepth 20000 in
theorem DX1_acceptsOne_b0 : ([(0, .aload_n 0, 1), (1, .getfield 60, 3), (4, .bipush 10, 2), (6, .if_icmp .eq 22, 3), (9, .aload_n 0, 1), (10, .getfield 60, 3), (13, .bipush 40, 2), (15, .if_icmp .eq 13, 3), (18, .aload_n 0, 1), (19, .iconst 0, 1), (20, .putfield 38, 3), (23, .aload_n 0, 1), (24, .invokevirtual 155, 3), (27, .ireturn, 1), (28, .aload_n 0, 1), (29, .getfield 45, 3), (32, .bipush 15, 2), (34, .if_icmp .lt 5, 3), (37, .iconst 0, 1), (38, .ireturn, 1), (39, .aload_n 0, 1), (40, .dup, 1), (41, .getfield 45, 3), (44, .iconst 1, 1), (45, .iadd, 1), (46, .putfield 45, 3), (49, .aload_n 0, 1), (50, .getfield 60, 3), (53, .bipush 40, 2), (55, .if_icmp .ne 13, 3), (58, .aload_n 0, 1), (59, .dup, 1), (60, .getfield 42, 3), (63, .iconst 1, 1), (64, .iadd, 1), (65, .putfield 42, 3), (68, .aload_n 0, 1), (69, .aload_n 0, 1), (70, .getfield 60, 3), (73, .invokevirtual 164, 3), (76, .iconst 1, 1), (77, .ireturn, 1)] : List (Nat × Instr × Nat)).all (fun r => decide (decode cX1_acceptsOne r.1 = .ok r.2)) = true := by decide +kernel
theorem dX1_acceptsOne_0 : decode cX1_acceptsOne 0 = .ok (.aload_n 0, 1) := of_row (r := (0, .aload_n 0, 1)) DX1_acceptsOne_b0 0 rfl
theorem dX1_acceptsOne_1 : decode cX1_acceptsOne 1 = .ok (.getfield 60, 3) := of_row (r := (1, .getfield 60, 3)) DX1_acceptsOne_b0 1 rfl
theorem dX1_acceptsOne_4 : decode cX1_acceptsOne 4 = .ok (.bipush 10, 2) := of_row (r := (4, .bipush 10, 2)) DX1_acceptsOne_b0 2 rfl
theorem dX1_acceptsOne_6 : decode cX1_acceptsOne 6 = .ok (.if_icmp .eq 22, 3) := of_row (r := (6, .if_icmp .eq 22, 3)) DX1_acceptsOne_b0 3 rfl
theorem dX1_acceptsOne_9 : decode cX1_acceptsOne 9 = .ok (.aload_n 0, 1) := of_row (r := (9, .aload_n 0, 1)) DX1_acceptsOne_b0 4 rfl
theorem dX1_acceptsOne_10 : decode cX1_acceptsOne 10 = .ok (.getfield 60, 3) := of_row (r := (10, .getfield 60, 3)) DX1_acceptsOne_b0 5 rfl
theorem dX1_acceptsOne_13 : decode cX1_acceptsOne 13 = .ok (.bipush 40, 2) := of_row (r := (13, .bipush 40, 2)) DX1_acceptsOne_b0 6 rfl
theorem dX1_acceptsOne_15 : decode cX1_acceptsOne 15 = .ok (.if_icmp .eq 13, 3) := of_row (r := (15, .if_icmp .eq 13, 3)) DX1_acceptsOne_b0 7 rfl
theorem dX1_acceptsOne_18 : decode cX1_acceptsOne 18 = .ok (.aload_n 0, 1) := of_row (r := (18, .aload_n 0, 1)) DX1_acceptsOne_b0 8 rfl
theorem dX1_acceptsOne_19 : decode cX1_acceptsOne 19 = .ok (.iconst 0, 1) := of_row (r := (19, .iconst 0, 1)) DX1_acceptsOne_b0 9 rfl
theorem dX1_acceptsOne_20 : decode cX1_acceptsOne 20 = .ok (.putfield 38, 3) := of_row (r := (20, .putfield 38, 3)) DX1_acceptsOne_b0 10 rfl
theorem dX1_acceptsOne_23 : decode cX1_acceptsOne 23 = .ok (.aload_n 0, 1) := of_row (r := (23, .aload_n 0, 1)) DX1_acceptsOne_b0 11 rfl
theorem dX1_acceptsOne_24 : decode cX1_acceptsOne 24 = .ok (.invokevirtual 155, 3) := of_row (r := (24, .invokevirtual 155, 3)) DX1_acceptsOne_b0 12 rfl
theorem dX1_acceptsOne_27 : decode cX1_acceptsOne 27 = .ok (.ireturn, 1) := of_row (r := (27, .ireturn, 1)) DX1_acceptsOne_b0 13 rfl
theorem dX1_acceptsOne_28 : decode cX1_acceptsOne 28 = .ok (.aload_n 0, 1) := of_row (r := (28, .aload_n 0, 1)) DX1_acceptsOne_b0 14 rfl
theorem dX1_acceptsOne_29 : decode cX1_acceptsOne 29 = .ok (.getfield 45, 3) := of_row (r := (29, .getfield 45, 3)) DX1_acceptsOne_b0 15 rfl
theorem dX1_acceptsOne_32 : decode cX1_acceptsOne 32 = .ok (.bipush 15, 2) := of_row (r := (32, .bipush 15, 2)) DX1_acceptsOne_b0 16 rfl
theorem dX1_acceptsOne_34 : decode cX1_acceptsOne 34 = .ok (.if_icmp .lt 5, 3) := of_row (r := (34, .if_icmp .lt 5, 3)) DX1_acceptsOne_b0 17 rfl
theorem dX1_acceptsOne_37 : decode cX1_acceptsOne 37 = .ok (.iconst 0, 1) := of_row (r := (37, .iconst 0, 1)) DX1_acceptsOne_b0 18 rfl
theorem dX1_acceptsOne_38 : decode cX1_acceptsOne 38 = .ok (.ireturn, 1) := of_row (r := (38, .ireturn, 1)) DX1_acceptsOne_b0 19 rfl
theorem dX1_acceptsOne_39 : decode cX1_acceptsOne 39 = .ok (.aload_n 0, 1) := of_row (r := (39, .aload_n 0, 1)) DX1_acceptsOne_b0 20 rfl
theorem dX1_acceptsOne_40 : decode cX1_acceptsOne 40 = .ok (.dup, 1) := of_row (r := (40, .dup, 1)) DX1_acceptsOne_b0 21 rfl
theorem dX1_acceptsOne_41 : decode cX1_acceptsOne 41 = .ok (.getfield 45, 3) := of_row (r := (41, .getfield 45, 3)) DX1_acceptsOne_b0 22 rfl
theorem dX1_acceptsOne_44 : decode cX1_acceptsOne 44 = .ok (.iconst 1, 1) := of_row (r := (44, .iconst 1, 1)) DX1_acceptsOne_b0 23 rfl
theorem dX1_acceptsOne_45 : decode cX1_acceptsOne 45 = .ok (.iadd, 1) := of_row (r := (45, .iadd, 1)) DX1_acceptsOne_b0 24 rfl
theorem dX1_acceptsOne_46 : decode cX1_acceptsOne 46 = .ok (.putfield 45, 3) := of_row (r := (46, .putfield 45, 3)) DX1_acceptsOne_b0 25 rfl
theorem dX1_acceptsOne_49 : decode cX1_acceptsOne 49 = .ok (.aload_n 0, 1) := of_row (r := (49, .aload_n 0, 1)) DX1_acceptsOne_b0 26 rfl
theorem dX1_acceptsOne_50 : decode cX1_acceptsOne 50 = .ok (.getfield 60, 3) := of_row (r := (50, .getfield 60, 3)) DX1_acceptsOne_b0 27 rfl
theorem dX1_acceptsOne_53 : decode cX1_acceptsOne 53 = .ok (.bipush 40, 2) := of_row (r := (53, .bipush 40, 2)) DX1_acceptsOne_b0 28 rfl
theorem dX1_acceptsOne_55 : decode cX1_acceptsOne 55 = .ok (.if_icmp .ne 13, 3) := of_row (r := (55, .if_icmp .ne 13, 3)) DX1_acceptsOne_b0 29 rfl
theorem dX1_acceptsOne_58 : decode cX1_acceptsOne 58 = .ok (.aload_n 0, 1) := of_row (r := (58, .aload_n 0, 1)) DX1_acceptsOne_b0 30 rfl
theorem dX1_acceptsOne_59 : decode cX1_acceptsOne 59 = .ok (.dup, 1) := of_row (r := (59, .dup, 1)) DX1_acceptsOne_b0 31 rfl
theorem dX1_acceptsOne_60 : decode cX1_acceptsOne 60 = .ok (.getfield 42, 3) := of_row (r := (60, .getfield 42, 3)) DX1_acceptsOne_b0 32 rfl
theorem dX1_acceptsOne_63 : decode cX1_acceptsOne 63 = .ok (.iconst 1, 1) := of_row (r := (63, .iconst 1, 1)) DX1_acceptsOne_b0 33 rfl
theorem dX1_acceptsOne_64 : decode cX1_acceptsOne 64 = .ok (.iadd, 1) := of_row (r := (64, .iadd, 1)) DX1_acceptsOne_b0 34 rfl
theorem dX1_acceptsOne_65 : decode cX1_acceptsOne 65 = .ok (.putfield 42, 3) := of_row (r := (65, .putfield 42, 3)) DX1_acceptsOne_b0 35 rfl
theorem dX1_acceptsOne_68 : decode cX1_acceptsOne 68 = .ok (.aload_n 0, 1) := of_row (r := (68, .aload_n 0, 1)) DX1_acceptsOne_b0 36 rfl
theorem dX1_acceptsOne_69 : decode cX1_acceptsOne 69 = .ok (.aload_n 0, 1) := of_row (r := (69, .aload_n 0, 1)) DX1_acceptsOne_b0 37 rfl
theorem dX1_acceptsOne_70 : decode cX1_acceptsOne 70 = .ok (.getfield 60, 3) := of_row (r := (70, .getfield 60, 3)) DX1_acceptsOne_b0 38 rfl
theorem dX1_acceptsOne_73 : decode cX1_acceptsOne 73 = .ok (.invokevirtual 164, 3) := of_row (r := (73, .invokevirtual 164, 3)) DX1_acceptsOne_b0 39 rfl
theorem dX1_acceptsOne_76 : decode cX1_acceptsOne 76 = .ok (.iconst 1, 1) := of_row (r := (76, .iconst 1, 1)) DX1_acceptsOne_b0 40 rfl
theorem dX1_acceptsOne_77 : decode cX1_acceptsOne 77 = .ok (.ireturn, 1) := of_row (r := (77, .ireturn, 1)) DX1_acceptsOne_b0 41 rfl
set_option maxRecDepth 20000 in
theorem DX1_acceptsPart_b0 : ([(0, .aload_n 0, 1), (1, .getfield 60, 3), (4, .bipush 30, 2), (6, .if_icmp .ne 28, 3), (9, .aload_n 0, 1), (10, .getfield 31, 3), (13, .aload_n 0, 1), (14, .getfield 78, 3), (17, .isub, 1), (18, .bipush 6, 2), (20, .if_icmp .gt 14, 3), (23, .aload_n 0, 1), (24, .aload_n 0, 1), (25, .getfield 107, 3), (28, .invokevirtual 168, 3), (31, .goto 35, 3), (34, .aload_n 0, 1), (35, .getfield 60, 3), (38, .bipush 11, 2), (40, .if_icmp .lt 24, 3), (43, .aload_n 0, 1), (44, .getfield 60, 3), (47, .bipush 20, 2), (49, .if_icmp .gt 15, 3), (52, .aload_n 0, 1), (53, .aload_n 0, 1), (54, .getfield 60, 3), (57, .ineg, 1), (58, .invokevirtual 168, 3), (61, .goto 5, 3), (64, .iconst 0, 1), (65, .ireturn, 1), (66, .aload_n 0, 1), (67, .bipush 6, 2), (69, .putfield 35, 3), (72, .iconst 1, 1), (73, .ireturn, 1)] : List (Nat × Instr × Nat)).all (fun r => decide (decode cX1_acceptsPart r.1 = .ok r.2)) = true := by decide +kernel
theorem dX1_acceptsPart_0 : decode cX1_acceptsPart 0 = .ok (.aload_n 0, 1) := of_row (r := (0, .aload_n 0, 1)) DX1_acceptsPart_b0 0 rfl
theorem dX1_acceptsPart_1 : decode cX1_acceptsPart 1 = .ok (.getfield 60, 3) := of_row (r := (1, .getfield 60, 3)) DX1_acceptsPart_b0 1 rfl
theorem dX1_acceptsPart_4 : decode cX1_acceptsPart 4 = .ok (.bipush 30, 2) := of_row (r := (4, .bipush 30, 2)) DX1_acceptsPart_b0 2 rfl
theorem dX1_acceptsPart_6 : decode cX1_acceptsPart 6 = .ok (.if_icmp .ne 28, 3) := of_row (r := (6, .if_icmp .ne 28, 3)) DX1_acceptsPart_b0 3 rfl
theorem dX1_acceptsPart_9 : decode cX1_acceptsPart 9 = .ok (.aload_n 0, 1) := of_row (r := (9, .aload_n 0, 1)) DX1_acceptsPart_b0 4 rfl
theorem dX1_acceptsPart_10 : decode cX1_acceptsPart 10 = .ok (.getfield 31, 3) := of_row (r := (10, .getfield 31, 3)) DX1_acceptsPart_b0 5 rfl
theorem dX1_acceptsPart_13 : decode cX1_acceptsPart 13 = .ok (.aload_n 0, 1) := of_row (r := (13, .aload_n 0, 1)) DX1_acceptsPart_b0 6 rfl
theorem dX1_acceptsPart_14 : decode cX1_acceptsPart 14 = .ok (.getfield 78, 3) := of_row (r := (14, .getfield 78, 3)) DX1_acceptsPart_b0 7 rfl
theorem dX1_acceptsPart_17 : decode cX1_acceptsPart 17 = .ok (.isub, 1) := of_row (r := (17, .isub, 1)) DX1_acceptsPart_b0 8 rfl
theorem dX1_acceptsPart_18 : decode cX1_acceptsPart 18 = .ok (.bipush 6, 2) := of_row (r := (18, .bipush 6, 2)) DX1_acceptsPart_b0 9 rfl
theorem dX1_acceptsPart_20 : decode cX1_acceptsPart 20 = .ok (.if_icmp .gt 14, 3) := of_row (r := (20, .if_icmp .gt 14, 3)) DX1_acceptsPart_b0 10 rfl
theorem dX1_acceptsPart_23 : decode cX1_acceptsPart 23 = .ok (.aload_n 0, 1) := of_row (r := (23, .aload_n 0, 1)) DX1_acceptsPart_b0 11 rfl
theorem dX1_acceptsPart_24 : decode cX1_acceptsPart 24 = .ok (.aload_n 0, 1) := of_row (r := (24, .aload_n 0, 1)) DX1_acceptsPart_b0 12 rfl
theorem dX1_acceptsPart_25 : decode cX1_acceptsPart 25 = .ok (.getfield 107, 3) := of_row (r := (25, .getfield 107, 3)) DX1_acceptsPart_b0 13 rfl
theorem dX1_acceptsPart_28 : decode cX1_acceptsPart 28 = .ok (.invokevirtual 168, 3) := of_row (r := (28, .invokevirtual 168, 3)) DX1_acceptsPart_b0 14 rfl
theorem dX1_acceptsPart_31 : decode cX1_acceptsPart 31 = .ok (.goto 35, 3) := of_row (r := (31, .goto 35, 3)) DX1_acceptsPart_b0 15 rfl
theorem dX1_acceptsPart_34 : decode cX1_acceptsPart 34 = .ok (.aload_n 0, 1) := of_row (r := (34, .aload_n 0, 1)) DX1_acceptsPart_b0 16 rfl
theorem dX1_acceptsPart_35 : decode cX1_acceptsPart 35 = .ok (.getfield 60, 3) := of_row (r := (35, .getfield 60, 3)) DX1_acceptsPart_b0 17 rfl
theorem dX1_acceptsPart_38 : decode cX1_acceptsPart 38 = .ok (.bipush 11, 2) := of_row (r := (38, .bipush 11, 2)) DX1_acceptsPart_b0 18 rfl
theorem dX1_acceptsPart_40 : decode cX1_acceptsPart 40 = .ok (.if_icmp .lt 24, 3) := of_row (r := (40, .if_icmp .lt 24, 3)) DX1_acceptsPart_b0 19 rfl
theorem dX1_acceptsPart_43 : decode cX1_acceptsPart 43 = .ok (.aload_n 0, 1) := of_row (r := (43, .aload_n 0, 1)) DX1_acceptsPart_b0 20 rfl
theorem dX1_acceptsPart_44 : decode cX1_acceptsPart 44 = .ok (.getfield 60, 3) := of_row (r := (44, .getfield 60, 3)) DX1_acceptsPart_b0 21 rfl
theorem dX1_acceptsPart_47 : decode cX1_acceptsPart 47 = .ok (.bipush 20, 2) := of_row (r := (47, .bipush 20, 2)) DX1_acceptsPart_b0 22 rfl
theorem dX1_acceptsPart_49 : decode cX1_acceptsPart 49 = .ok (.if_icmp .gt 15, 3) := of_row (r := (49, .if_icmp .gt 15, 3)) DX1_acceptsPart_b0 23 rfl
theorem dX1_acceptsPart_52 : decode cX1_acceptsPart 52 = .ok (.aload_n 0, 1) := of_row (r := (52, .aload_n 0, 1)) DX1_acceptsPart_b0 24 rfl
theorem dX1_acceptsPart_53 : decode cX1_acceptsPart 53 = .ok (.aload_n 0, 1) := of_row (r := (53, .aload_n 0, 1)) DX1_acceptsPart_b0 25 rfl
theorem dX1_acceptsPart_54 : decode cX1_acceptsPart 54 = .ok (.getfield 60, 3) := of_row (r := (54, .getfield 60, 3)) DX1_acceptsPart_b0 26 rfl
theorem dX1_acceptsPart_57 : decode cX1_acceptsPart 57 = .ok (.ineg, 1) := of_row (r := (57, .ineg, 1)) DX1_acceptsPart_b0 27 rfl
theorem dX1_acceptsPart_58 : decode cX1_acceptsPart 58 = .ok (.invokevirtual 168, 3) := of_row (r := (58, .invokevirtual 168, 3)) DX1_acceptsPart_b0 28 rfl
theorem dX1_acceptsPart_61 : decode cX1_acceptsPart 61 = .ok (.goto 5, 3) := of_row (r := (61, .goto 5, 3)) DX1_acceptsPart_b0 29 rfl
theorem dX1_acceptsPart_64 : decode cX1_acceptsPart 64 = .ok (.iconst 0, 1) := of_row (r := (64, .iconst 0, 1)) DX1_acceptsPart_b0 30 rfl
theorem dX1_acceptsPart_65 : decode cX1_acceptsPart 65 = .ok (.ireturn, 1) := of_row (r := (65, .ireturn, 1)) DX1_acceptsPart_b0 31 rfl
theorem dX1_acceptsPart_66 : decode cX1_acceptsPart 66 = .ok (.aload_n 0, 1) := of_row (r := (66, .aload_n 0, 1)) DX1_acceptsPart_b0 32 rfl
theorem dX1_acceptsPart_67 : decode cX1_acceptsPart 67 = .ok (.bipush 6, 2) := of_row (r := (67, .bipush 6, 2)) DX1_acceptsPart_b0 33 rfl
theorem dX1_acceptsPart_69 : decode cX1_acceptsPart 69 = .ok (.putfield 35, 3) := of_row (r := (69, .putfield 35, 3)) DX1_acceptsPart_b0 34 rfl
theorem dX1_acceptsPart_72 : decode cX1_acceptsPart 72 = .ok (.iconst 1, 1) := of_row (r := (72, .iconst 1, 1)) DX1_acceptsPart_b0 35 rfl
theorem dX1_acceptsPart_73 : decode cX1_acceptsPart 73 = .ok (.ireturn, 1) := of_row (r := (73, .ireturn, 1)) DX1_acceptsPart_b0 36 rfl
set_option maxRecDepth 20000 in
theorem DX1_acceptsBehindPart_b0 : ([(0, .aload_n 0, 1), (1, .getfield 60, 3), (4, .invokestatic 113, 3), (7, .ifCond .eq 18, 3), (10, .aload_n 0, 1), (11, .getfield 38, 3), (14, .ifCond .ne 11, 3), (17, .aload_n 0, 1), (18, .iconst 1, 1), (19, .putfield 38, 3), (22, .goto 33, 3), (25, .aload_n 0, 1), (26, .getfield 60, 3), (29, .invokestatic 116, 3), (32, .ifCond .ne 23, 3), (35, .aload_n 0, 1), (36, .getfield 38, 3), (39, .ifCond .eq 14, 3), (42, .aload_n 0, 1), (43, .invokevirtual 161, 3), (46, .ifCond .eq 7, 3), (49, .iconst 1, 1), (50, .goto 4, 3), (53, .iconst 0, 1), (54, .ireturn, 1), (55, .aload_n 0, 1), (56, .invokevirtual 171, 3), (59, .aload_n 0, 1), (60, .iconst 5, 1), (61, .putfield 35, 3), (64, .iconst 1, 1), (65, .ireturn, 1)] : List (Nat × Instr × Nat)).all (fun r => decide (decode cX1_acceptsBehindPart r.1 = .ok r.2)) = true := by decide +kernel
theorem dX1_acceptsBehindPart_0 : decode cX1_acceptsBehindPart 0 = .ok (.aload_n 0, 1) := of_row (r := (0, .aload_n 0, 1)) DX1_acceptsBehindPart_b0 0 rfl
theorem dX1_acceptsBehindPart_1 : decode cX1_acceptsBehindPart 1 = .ok (.getfield 60, 3) := of_row (r := (1, .getfield 60, 3)) DX1_acceptsBehindPart_b0 1 rfl
theorem dX1_acceptsBehindPart_4 : decode cX1_acceptsBehindPart 4 = .ok (.invokestatic 113, 3) := of_row (r := (4, .invokestatic 113, 3)) DX1_acceptsBehindPart_b0 2 rfl
theorem dX1_acceptsBehindPart_7 : decode cX1_acceptsBehindPart 7 = .ok (.ifCond .eq 18, 3) := of_row (r := (7, .ifCond .eq 18, 3)) DX1_acceptsBehindPart_b0 3 rfl
theorem dX1_acceptsBehindPart_10 : decode cX1_acceptsBehindPart 10 = .ok (.aload_n 0, 1) := of_row (r := (10, .aload_n 0, 1)) DX1_acceptsBehindPart_b0 4 rfl
theorem dX1_acceptsBehindPart_11 : decode cX1_acceptsBehindPart 11 = .ok (.getfield 38, 3) := of_row (r := (11, .getfield 38, 3)) DX1_acceptsBehindPart_b0 5 rfl
theorem dX1_acceptsBehindPart_14 : decode cX1_acceptsBehindPart 14 = .ok (.ifCond .ne 11, 3) := of_row (r := (14, .ifCond .ne 11, 3)) DX1_acceptsBehindPart_b0 6 rfl
theorem dX1_acceptsBehindPart_17 : decode cX1_acceptsBehindPart 17 = .ok (.aload_n 0, 1) := of_row (r := (17, .aload_n 0, 1)) DX1_acceptsBehindPart_b0 7 rfl
theorem dX1_acceptsBehindPart_18 : decode cX1_acceptsBehindPart 18 = .ok (.iconst 1, 1) := of_row (r := (18, .iconst 1, 1)) DX1_acceptsBehindPart_b0 8 rfl
theorem dX1_acceptsBehindPart_19 : decode cX1_acceptsBehindPart 19 = .ok (.putfield 38, 3) := of_row (r := (19, .putfield 38, 3)) DX1_acceptsBehindPart_b0 9 rfl
theorem dX1_acceptsBehindPart_22 : decode cX1_acceptsBehindPart 22 = .ok (.goto 33, 3) := of_row (r := (22, .goto 33, 3)) DX1_acceptsBehindPart_b0 10 rfl
theorem dX1_acceptsBehindPart_25 : decode cX1_acceptsBehindPart 25 = .ok (.aload_n 0, 1) := of_row (r := (25, .aload_n 0, 1)) DX1_acceptsBehindPart_b0 11 rfl
theorem dX1_acceptsBehindPart_26 : decode cX1_acceptsBehindPart 26 = .ok (.getfield 60, 3) := of_row (r := (26, .getfield 60, 3)) DX1_acceptsBehindPart_b0 12 rfl
theorem dX1_acceptsBehindPart_29 : decode cX1_acceptsBehindPart 29 = .ok (.invokestatic 116, 3) := of_row (r := (29, .invokestatic 116, 3)) DX1_acceptsBehindPart_b0 13 rfl
theorem dX1_acceptsBehindPart_32 : decode cX1_acceptsBehindPart 32 = .ok (.ifCond .ne 23, 3) := of_row (r := (32, .ifCond .ne 23, 3)) DX1_acceptsBehindPart_b0 14 rfl
theorem dX1_acceptsBehindPart_35 : decode cX1_acceptsBehindPart 35 = .ok (.aload_n 0, 1) := of_row (r := (35, .aload_n 0, 1)) DX1_acceptsBehindPart_b0 15 rfl
theorem dX1_acceptsBehindPart_36 : decode cX1_acceptsBehindPart 36 = .ok (.getfield 38, 3) := of_row (r := (36, .getfield 38, 3)) DX1_acceptsBehindPart_b0 16 rfl
theorem dX1_acceptsBehindPart_39 : decode cX1_acceptsBehindPart 39 = .ok (.ifCond .eq 14, 3) := of_row (r := (39, .ifCond .eq 14, 3)) DX1_acceptsBehindPart_b0 17 rfl
theorem dX1_acceptsBehindPart_42 : decode cX1_acceptsBehindPart 42 = .ok (.aload_n 0, 1) := of_row (r := (42, .aload_n 0, 1)) DX1_acceptsBehindPart_b0 18 rfl
theorem dX1_acceptsBehindPart_43 : decode cX1_acceptsBehindPart 43 = .ok (.invokevirtual 161, 3) := of_row (r := (43, .invokevirtual 161, 3)) DX1_acceptsBehindPart_b0 19 rfl
theorem dX1_acceptsBehindPart_46 : decode cX1_acceptsBehindPart 46 = .ok (.ifCond .eq 7, 3) := of_row (r := (46, .ifCond .eq 7, 3)) DX1_acceptsBehindPart_b0 20 rfl
theorem dX1_acceptsBehindPart_49 : decode cX1_acceptsBehindPart 49 = .ok (.iconst 1, 1) := of_row (r := (49, .iconst 1, 1)) DX1_acceptsBehindPart_b0 21 rfl
theorem dX1_acceptsBehindPart_50 : decode cX1_acceptsBehindPart 50 = .ok (.goto 4, 3) := of_row (r := (50, .goto 4, 3)) DX1_acceptsBehindPart_b0 22 rfl
theorem dX1_acceptsBehindPart_53 : decode cX1_acceptsBehindPart 53 = .ok (.iconst 0, 1) := of_row (r := (53, .iconst 0, 1)) DX1_acceptsBehindPart_b0 23 rfl
theorem dX1_acceptsBehindPart_54 : decode cX1_acceptsBehindPart 54 = .ok (.ireturn, 1) := of_row (r := (54, .ireturn, 1)) DX1_acceptsBehindPart_b0 24 rfl
theorem dX1_acceptsBehindPart_55 : decode cX1_acceptsBehindPart 55 = .ok (.aload_n 0, 1) := of_row (r := (55, .aload_n 0, 1)) DX1_acceptsBehindPart_b0 25 rfl
theorem dX1_acceptsBehindPart_56 : decode cX1_acceptsBehindPart 56 = .ok (.invokevirtual 171, 3) := of_row (r := (56, .invokevirtual 171, 3)) DX1_acceptsBehindPart_b0 26 rfl
theorem dX1_acceptsBehindPart_59 : decode cX1_acceptsBehindPart 59 = .ok (.aload_n 0, 1) := of_row (r := (59, .aload_n 0, 1)) DX1_acceptsBehindPart_b0 27 rfl
theorem dX1_acceptsBehindPart_60 : decode cX1_acceptsBehindPart 60 = .ok (.iconst 5, 1) := of_row (r := (60, .iconst 5, 1)) DX1_acceptsBehindPart_b0 28 rfl
theorem dX1_acceptsBehindPart_61 : decode cX1_acceptsBehindPart 61 = .ok (.putfield 35, 3) := of_row (r := (61, .putfield 35, 3)) DX1_acceptsBehindPart_b0 29 rfl
theorem dX1_acceptsBehindPart_64 : decode cX1_acceptsBehindPart 64 = .ok (.iconst 1, 1) := of_row (r := (64, .iconst 1, 1)) DX1_acceptsBehindPart_b0 30 rfl
theorem dX1_acceptsBehindPart_65 : decode cX1_acceptsBehindPart 65 = .ok (.ireturn, 1) := of_row (r := (65, .ireturn, 1)) DX1_acceptsBehindPart_b0 31 rfl
set_option maxRecDepth 20000 in
theorem DX1_acceptsBehindOne_b0 : ([(0, .aload_n 0, 1), (1, .getfield 60, 3), (4, .bipush 8, 2), (6, .if_icmp .eq 12, 3), (9, .aload_n 0, 1), (10, .getfield 60, 3), (13, .bipush 9, 2), (15, .if_icmp .ne 15, 3), (18, .aload_n 0, 1), (19, .invokevirtual 171, 3), (22, .aload_n 0, 1), (23, .iconst 4, 1), (24, .putfield 35, 3), (27, .goto 76, 3), (30, .aload_n 0, 1), (31, .getfield 60, 3), (34, .bipush 41, 2), (36, .if_icmp .ne 32, 3), (39, .aload_n 0, 1), (40, .getfield 42, 3), (43, .ifCond .le 25, 3), (46, .aload_n 0, 1), (47, .bipush 9, 2), (49, .invokestatic 174, 3), (52, .invokevirtual 177, 3), (55, .aload_n 0, 1), (56, .invokevirtual 180, 3), (59, .aload_n 0, 1), (60, .bipush 7, 2), (62, .putfield 35, 3), (65, .goto 38, 3), (68, .aload_n 0, 1), (69, .getfield 60, 3), (72, .bipush 7, 2), (74, .if_icmp .ne 27, 3), (77, .aload_n 0, 1), (78, .getfield 42, 3), (81, .ifCond .ne 20, 3), (84, .aload_n 0, 1), (85, .bipush 9, 2), (87, .invokestatic 174, 3), (90, .invokevirtual 177, 3), (93, .aload_n 0, 1), (94, .iconst 1, 1), (95, .putfield 35, 3), (98, .goto 5, 3), (101, .iconst 0, 1), (102, .ireturn, 1), (103, .iconst 1, 1), (104, .ireturn, 1)] : List (Nat × Instr × Nat)).all (fun r => decide (decode cX1_acceptsBehindOne r.1 = .ok r.2)) = true := by decide +kernel
theorem dX1_acceptsBehindOne_0 : decode cX1_acceptsBehindOne 0 = .ok (.aload_n 0, 1) := of_row (r := (0, .aload_n 0, 1)) DX1_acceptsBehindOne_b0 0 rfl
theorem dX1_acceptsBehindOne_1 : decode cX1_acceptsBehindOne 1 = .ok (.getfield 60, 3) := of_row (r := (1, .getfield 60, 3)) DX1_acceptsBehindOne_b0 1 rfl
theorem dX1_acceptsBehindOne_4 : decode cX1_acceptsBehindOne 4 = .ok (.bipush 8, 2) := of_row (r := (4, .bipush 8, 2)) DX1_acceptsBehindOne_b0 2 rfl
theorem dX1_acceptsBehindOne_6 : decode cX1_acceptsBehindOne 6 = .ok (.if_icmp .eq 12, 3) := of_row (r := (6, .if_icmp .eq 12, 3)) DX1_acceptsBehindOne_b0 3 rfl
theorem dX1_acceptsBehindOne_9 : decode cX1_acceptsBehindOne 9 = .ok (.aload_n 0, 1) := of_row (r := (9, .aload_n 0, 1)) DX1_acceptsBehindOne_b0 4 rfl
theorem dX1_acceptsBehindOne_10 : decode cX1_acceptsBehindOne 10 = .ok (.getfield 60, 3) := of_row (r := (10, .getfield 60, 3)) DX1_acceptsBehindOne_b0 5 rfl
theorem dX1_acceptsBehindOne_13 : decode cX1_acceptsBehindOne 13 = .ok (.bipush 9, 2) := of_row (r := (13, .bipush 9, 2)) DX1_acceptsBehindOne_b0 6 rfl
theorem dX1_acceptsBehindOne_15 : decode cX1_acceptsBehindOne 15 = .ok (.if_icmp .ne 15, 3) := of_row (r := (15, .if_icmp .ne 15, 3)) DX1_acceptsBehindOne_b0 7 rfl
