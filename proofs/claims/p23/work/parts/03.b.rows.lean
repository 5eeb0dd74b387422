theorem dX1_acceptsBehindOne_18 : decode cX1_acceptsBehindOne 18 = .ok (.aload_n 0, 1) := of_row (r := (18, .aload_n 0, 1)) DX1_acceptsBehindOne_b0 8 rfl
theorem dX1_acceptsBehindOne_19 : decode cX1_acceptsBehindOne 19 = .ok (.invokevirtual 171, 3) := of_row (r := (19, .invokevirtual 171, 3)) DX1_acceptsBehindOne_b0 9 rfl
theorem dX1_acceptsBehindOne_22 : decode cX1_acceptsBehindOne 22 = .ok (.aload_n 0, 1) := of_row (r := (22, .aload_n 0, 1)) DX1_acceptsBehindOne_b0 10 rfl
theorem dX1_acceptsBehindOne_23 : decode cX1_acceptsBehindOne 23 = .ok (.iconst 4, 1) := of_row (r := (23, .iconst 4, 1)) DX1_acceptsBehindOne_b0 11 rfl
theorem dX1_acceptsBehindOne_24 : decode cX1_acceptsBehindOne 24 = .ok (.putfield 35, 3) := of_row (r := (24, .putfield 35, 3)) DX1_acceptsBehindOne_b0 12 rfl
theorem dX1_acceptsBehindOne_27 : decode cX1_acceptsBehindOne 27 = .ok (.goto 76, 3) := of_row (r := (27, .goto 76, 3)) DX1_acceptsBehindOne_b0 13 rfl
theorem dX1_acceptsBehindOne_30 : decode cX1_acceptsBehindOne 30 = .ok (.aload_n 0, 1) := of_row (r := (30, .aload_n 0, 1)) DX1_acceptsBehindOne_b0 14 rfl
theorem dX1_acceptsBehindOne_31 : decode cX1_acceptsBehindOne 31 = .ok (.getfield 60, 3) := of_row (r := (31, .getfield 60, 3)) DX1_acceptsBehindOne_b0 15 rfl
theorem dX1_acceptsBehindOne_34 : decode cX1_acceptsBehindOne 34 = .ok (.bipush 41, 2) := of_row (r := (34, .bipush 41, 2)) DX1_acceptsBehindOne_b0 16 rfl
theorem dX1_acceptsBehindOne_36 : decode cX1_acceptsBehindOne 36 = .ok (.if_icmp .ne 32, 3) := of_row (r := (36, .if_icmp .ne 32, 3)) DX1_acceptsBehindOne_b0 17 rfl
theorem dX1_acceptsBehindOne_39 : decode cX1_acceptsBehindOne 39 = .ok (.aload_n 0, 1) := of_row (r := (39, .aload_n 0, 1)) DX1_acceptsBehindOne_b0 18 rfl
theorem dX1_acceptsBehindOne_40 : decode cX1_acceptsBehindOne 40 = .ok (.getfield 42, 3) := of_row (r := (40, .getfield 42, 3)) DX1_acceptsBehindOne_b0 19 rfl
theorem dX1_acceptsBehindOne_43 : decode cX1_acceptsBehindOne 43 = .ok (.ifCond .le 25, 3) := of_row (r := (43, .ifCond .le 25, 3)) DX1_acceptsBehindOne_b0 20 rfl
theorem dX1_acceptsBehindOne_46 : decode cX1_acceptsBehindOne 46 = .ok (.aload_n 0, 1) := of_row (r := (46, .aload_n 0, 1)) DX1_acceptsBehindOne_b0 21 rfl
theorem dX1_acceptsBehindOne_47 : decode cX1_acceptsBehindOne 47 = .ok (.bipush 9, 2) := of_row (r := (47, .bipush 9, 2)) DX1_acceptsBehindOne_b0 22 rfl
theorem dX1_acceptsBehindOne_49 : decode cX1_acceptsBehindOne 49 = .ok (.invokestatic 174, 3) := of_row (r := (49, .invokestatic 174, 3)) DX1_acceptsBehindOne_b0 23 rfl
theorem dX1_acceptsBehindOne_52 : decode cX1_acceptsBehindOne 52 = .ok (.invokevirtual 177, 3) := of_row (r := (52, .invokevirtual 177, 3)) DX1_acceptsBehindOne_b0 24 rfl
theorem dX1_acceptsBehindOne_55 : decode cX1_acceptsBehindOne 55 = .ok (.aload_n 0, 1) := of_row (r := (55, .aload_n 0, 1)) DX1_acceptsBehindOne_b0 25 rfl
theorem dX1_acceptsBehindOne_56 : decode cX1_acceptsBehindOne 56 = .ok (.invokevirtual 180, 3) := of_row (r := (56, .invokevirtual 180, 3)) DX1_acceptsBehindOne_b0 26 rfl
theorem dX1_acceptsBehindOne_59 : decode cX1_acceptsBehindOne 59 = .ok (.aload_n 0, 1) := of_row (r := (59, .aload_n 0, 1)) DX1_acceptsBehindOne_b0 27 rfl
theorem dX1_acceptsBehindOne_60 : decode cX1_acceptsBehindOne 60 = .ok (.bipush 7, 2) := of_row (r := (60, .bipush 7, 2)) DX1_acceptsBehindOne_b0 28 rfl
theorem dX1_acceptsBehindOne_62 : decode cX1_acceptsBehindOne 62 = .ok (.putfield 35, 3) := of_row (r := (62, .putfield 35, 3)) DX1_acceptsBehindOne_b0 29 rfl
theorem dX1_acceptsBehindOne_65 : decode cX1_acceptsBehindOne 65 = .ok (.goto 38, 3) := of_row (r := (65, .goto 38, 3)) DX1_acceptsBehindOne_b0 30 rfl
theorem dX1_acceptsBehindOne_68 : decode cX1_acceptsBehindOne 68 = .ok (.aload_n 0, 1) := of_row (r := (68, .aload_n 0, 1)) DX1_acceptsBehindOne_b0 31 rfl
theorem dX1_acceptsBehindOne_69 : decode cX1_acceptsBehindOne 69 = .ok (.getfield 60, 3) := of_row (r := (69, .getfield 60, 3)) DX1_acceptsBehindOne_b0 32 rfl
theorem dX1_acceptsBehindOne_72 : decode cX1_acceptsBehindOne 72 = .ok (.bipush 7, 2) := of_row (r := (72, .bipush 7, 2)) DX1_acceptsBehindOne_b0 33 rfl
theorem dX1_acceptsBehindOne_74 : decode cX1_acceptsBehindOne 74 = .ok (.if_icmp .ne 27, 3) := of_row (r := (74, .if_icmp .ne 27, 3)) DX1_acceptsBehindOne_b0 34 rfl
theorem dX1_acceptsBehindOne_77 : decode cX1_acceptsBehindOne 77 = .ok (.aload_n 0, 1) := of_row (r := (77, .aload_n 0, 1)) DX1_acceptsBehindOne_b0 35 rfl
theorem dX1_acceptsBehindOne_78 : decode cX1_acceptsBehindOne 78 = .ok (.getfield 42, 3) := of_row (r := (78, .getfield 42, 3)) DX1_acceptsBehindOne_b0 36 rfl
theorem dX1_acceptsBehindOne_81 : decode cX1_acceptsBehindOne 81 = .ok (.ifCond .ne 20, 3) := of_row (r := (81, .ifCond .ne 20, 3)) DX1_acceptsBehindOne_b0 37 rfl
theorem dX1_acceptsBehindOne_84 : decode cX1_acceptsBehindOne 84 = .ok (.aload_n 0, 1) := of_row (r := (84, .aload_n 0, 1)) DX1_acceptsBehindOne_b0 38 rfl
theorem dX1_acceptsBehindOne_85 : decode cX1_acceptsBehindOne 85 = .ok (.bipush 9, 2) := of_row (r := (85, .bipush 9, 2)) DX1_acceptsBehindOne_b0 39 rfl
theorem dX1_acceptsBehindOne_87 : decode cX1_acceptsBehindOne 87 = .ok (.invokestatic 174, 3) := of_row (r := (87, .invokestatic 174, 3)) DX1_acceptsBehindOne_b0 40 rfl
theorem dX1_acceptsBehindOne_90 : decode cX1_acceptsBehindOne 90 = .ok (.invokevirtual 177, 3) := of_row (r := (90, .invokevirtual 177, 3)) DX1_acceptsBehindOne_b0 41 rfl
theorem dX1_acceptsBehindOne_93 : decode cX1_acceptsBehindOne 93 = .ok (.aload_n 0, 1) := of_row (r := (93, .aload_n 0, 1)) DX1_acceptsBehindOne_b0 42 rfl
theorem dX1_acceptsBehindOne_94 : decode cX1_acceptsBehindOne 94 = .ok (.iconst 1, 1) := of_row (r := (94, .iconst 1, 1)) DX1_acceptsBehindOne_b0 43 rfl
theorem dX1_acceptsBehindOne_95 : decode cX1_acceptsBehindOne 95 = .ok (.putfield 35, 3) := of_row (r := (95, .putfield 35, 3)) DX1_acceptsBehindOne_b0 44 rfl
theorem dX1_acceptsBehindOne_98 : decode cX1_acceptsBehindOne 98 = .ok (.goto 5, 3) := of_row (r := (98, .goto 5, 3)) DX1_acceptsBehindOne_b0 45 rfl
theorem dX1_acceptsBehindOne_101 : decode cX1_acceptsBehindOne 101 = .ok (.iconst 0, 1) := of_row (r := (101, .iconst 0, 1)) DX1_acceptsBehindOne_b0 46 rfl
theorem dX1_acceptsBehindOne_102 : decode cX1_acceptsBehindOne 102 = .ok (.ireturn, 1) := of_row (r := (102, .ireturn, 1)) DX1_acceptsBehindOne_b0 47 rfl
theorem dX1_acceptsBehindOne_103 : decode cX1_acceptsBehindOne 103 = .ok (.iconst 1, 1) := of_row (r := (103, .iconst 1, 1)) DX1_acceptsBehindOne_b0 48 rfl
theorem dX1_acceptsBehindOne_104 : decode cX1_acceptsBehindOne 104 = .ok (.ireturn, 1) := of_row (r := (104, .ireturn, 1)) DX1_acceptsBehindOne_b0 49 rfl
set_option maxRecDepth 20000 in
theorem DX1_join_b0 : ([(0, .aload_n 0, 1), (1, .aload_n 0, 1), (2, .getfield 60, 3), (5, .invokestatic 174, 3), (8, .invokevirtual 177, 3), (11, .aload_n 0, 1), (12, .aload_n 0, 1), (13, .getfield 60, 3), (16, .invokevirtual 164, 3), (19, .return_, 1)] : List (Nat × Instr × Nat)).all (fun r => decide (decode cX1_join r.1 = .ok r.2)) = true := by decide +kernel
theorem dX1_join_0 : decode cX1_join 0 = .ok (.aload_n 0, 1) := of_row (r := (0, .aload_n 0, 1)) DX1_join_b0 0 rfl
theorem dX1_join_1 : decode cX1_join 1 = .ok (.aload_n 0, 1) := of_row (r := (1, .aload_n 0, 1)) DX1_join_b0 1 rfl
theorem dX1_join_2 : decode cX1_join 2 = .ok (.getfield 60, 3) := of_row (r := (2, .getfield 60, 3)) DX1_join_b0 2 rfl
theorem dX1_join_5 : decode cX1_join 5 = .ok (.invokestatic 174, 3) := of_row (r := (5, .invokestatic 174, 3)) DX1_join_b0 3 rfl
theorem dX1_join_8 : decode cX1_join 8 = .ok (.invokevirtual 177, 3) := of_row (r := (8, .invokevirtual 177, 3)) DX1_join_b0 4 rfl
theorem dX1_join_11 : decode cX1_join 11 = .ok (.aload_n 0, 1) := of_row (r := (11, .aload_n 0, 1)) DX1_join_b0 5 rfl
theorem dX1_join_12 : decode cX1_join 12 = .ok (.aload_n 0, 1) := of_row (r := (12, .aload_n 0, 1)) DX1_join_b0 6 rfl
theorem dX1_join_13 : decode cX1_join 13 = .ok (.getfield 60, 3) := of_row (r := (13, .getfield 60, 3)) DX1_join_b0 7 rfl
theorem dX1_join_16 : decode cX1_join 16 = .ok (.invokevirtual 164, 3) := of_row (r := (16, .invokevirtual 164, 3)) DX1_join_b0 8 rfl
theorem dX1_join_19 : decode cX1_join 19 = .ok (.return_, 1) := of_row (r := (19, .return_, 1)) DX1_join_b0 9 rfl
set_option maxRecDepth 20000 in
theorem DX1_strength_b0 : ([(0, .iload_n 0, 1), (1, .lookupswitch 96 #[(8, 85), (9, 83), (10, 87), (42, 93), (43, 91), (45, 91), (60, 89), (61, 89), (62, 89)], 83), (84, .iconst 1, 1), (85, .ireturn, 1), (86, .iconst 2, 1), (87, .ireturn, 1), (88, .iconst 3, 1), (89, .ireturn, 1), (90, .iconst 4, 1), (91, .ireturn, 1), (92, .iconst 5, 1), (93, .ireturn, 1), (94, .bipush 6, 2), (96, .ireturn, 1), (97, .iconst 0, 1), (98, .ireturn, 1)] : List (Nat × Instr × Nat)).all (fun r => decide (decode cX1_strength r.1 = .ok r.2)) = true := by decide +kernel
theorem dX1_strength_0 : decode cX1_strength 0 = .ok (.iload_n 0, 1) := of_row (r := (0, .iload_n 0, 1)) DX1_strength_b0 0 rfl
theorem dX1_strength_1 : decode cX1_strength 1 = .ok (.lookupswitch 96 #[(8, 85), (9, 83), (10, 87), (42, 93), (43, 91), (45, 91), (60, 89), (61, 89), (62, 89)], 83) := of_row (r := (1, .lookupswitch 96 #[(8, 85), (9, 83), (10, 87), (42, 93), (43, 91), (45, 91), (60, 89), (61, 89), (62, 89)], 83)) DX1_strength_b0 1 rfl
theorem dX1_strength_84 : decode cX1_strength 84 = .ok (.iconst 1, 1) := of_row (r := (84, .iconst 1, 1)) DX1_strength_b0 2 rfl
theorem dX1_strength_85 : decode cX1_strength 85 = .ok (.ireturn, 1) := of_row (r := (85, .ireturn, 1)) DX1_strength_b0 3 rfl
theorem dX1_strength_86 : decode cX1_strength 86 = .ok (.iconst 2, 1) := of_row (r := (86, .iconst 2, 1)) DX1_strength_b0 4 rfl
theorem dX1_strength_87 : decode cX1_strength 87 = .ok (.ireturn, 1) := of_row (r := (87, .ireturn, 1)) DX1_strength_b0 5 rfl
theorem dX1_strength_88 : decode cX1_strength 88 = .ok (.iconst 3, 1) := of_row (r := (88, .iconst 3, 1)) DX1_strength_b0 6 rfl
theorem dX1_strength_89 : decode cX1_strength 89 = .ok (.ireturn, 1) := of_row (r := (89, .ireturn, 1)) DX1_strength_b0 7 rfl
theorem dX1_strength_90 : decode cX1_strength 90 = .ok (.iconst 4, 1) := of_row (r := (90, .iconst 4, 1)) DX1_strength_b0 8 rfl
theorem dX1_strength_91 : decode cX1_strength 91 = .ok (.ireturn, 1) := of_row (r := (91, .ireturn, 1)) DX1_strength_b0 9 rfl
theorem dX1_strength_92 : decode cX1_strength 92 = .ok (.iconst 5, 1) := of_row (r := (92, .iconst 5, 1)) DX1_strength_b0 10 rfl
theorem dX1_strength_93 : decode cX1_strength 93 = .ok (.ireturn, 1) := of_row (r := (93, .ireturn, 1)) DX1_strength_b0 11 rfl
theorem dX1_strength_94 : decode cX1_strength 94 = .ok (.bipush 6, 2) := of_row (r := (94, .bipush 6, 2)) DX1_strength_b0 12 rfl
theorem dX1_strength_96 : decode cX1_strength 96 = .ok (.ireturn, 1) := of_row (r := (96, .ireturn, 1)) DX1_strength_b0 13 rfl
theorem dX1_strength_97 : decode cX1_strength 97 = .ok (.iconst 0, 1) := of_row (r := (97, .iconst 0, 1)) DX1_strength_b0 14 rfl
theorem dX1_strength_98 : decode cX1_strength 98 = .ok (.ireturn, 1) := of_row (r := (98, .ireturn, 1)) DX1_strength_b0 15 rfl
set_option maxRecDepth 20000 in
theorem DX1_emitDownTo_b0 : ([(0, .aload_n 0, 1), (1, .getfield 48, 3), (4, .ifCond .le 72, 3), (7, .aload_n 0, 1), (8, .getfield 11, 3), (11, .aload_n 0, 1), (12, .getfield 48, 3), (15, .iconst 1, 1), (16, .isub, 1), (17, .iaload, 1), (18, .invokestatic 174, 3), (21, .iload_n 1, 1), (22, .if_icmp .lt 54, 3), (25, .aload_n 0, 1), (26, .dup, 1), (27, .getfield 48, 3), (30, .iconst 1, 1), (31, .isub, 1), (32, .putfield 48, 3), (35, .aload_n 0, 1), (36, .aload_n 0, 1), (37, .getfield 11, 3), (40, .aload_n 0, 1), (41, .getfield 48, 3), (44, .iaload, 1), (45, .ineg, 1), (46, .invokevirtual 168, 3), (49, .aload_n 0, 1), (50, .getfield 11, 3), (53, .aload_n 0, 1), (54, .getfield 48, 3), (57, .iaload, 1), (58, .bipush 10, 2), (60, .if_icmp .ne (-60), 3), (63, .aload_n 0, 1), (64, .dup, 1), (65, .getfield 45, 3), (68, .iconst 1, 1), (69, .isub, 1), (70, .putfield 45, 3), (73, .goto (-73), 3), (76, .return_, 1)] : List (Nat × Instr × Nat)).all (fun r => decide (decode cX1_emitDownTo r.1 = .ok r.2)) = true := by decide +kernel
theorem dX1_emitDownTo_0 : decode cX1_emitDownTo 0 = .ok (.aload_n 0, 1) := of_row (r := (0, .aload_n 0, 1)) DX1_emitDownTo_b0 0 rfl
theorem dX1_emitDownTo_1 : decode cX1_emitDownTo 1 = .ok (.getfield 48, 3) := of_row (r := (1, .getfield 48, 3)) DX1_emitDownTo_b0 1 rfl
theorem dX1_emitDownTo_4 : decode cX1_emitDownTo 4 = .ok (.ifCond .le 72, 3) := of_row (r := (4, .ifCond .le 72, 3)) DX1_emitDownTo_b0 2 rfl
theorem dX1_emitDownTo_7 : decode cX1_emitDownTo 7 = .ok (.aload_n 0, 1) := of_row (r := (7, .aload_n 0, 1)) DX1_emitDownTo_b0 3 rfl
theorem dX1_emitDownTo_8 : decode cX1_emitDownTo 8 = .ok (.getfield 11, 3) := of_row (r := (8, .getfield 11, 3)) DX1_emitDownTo_b0 4 rfl
theorem dX1_emitDownTo_11 : decode cX1_emitDownTo 11 = .ok (.aload_n 0, 1) := of_row (r := (11, .aload_n 0, 1)) DX1_emitDownTo_b0 5 rfl
theorem dX1_emitDownTo_12 : decode cX1_emitDownTo 12 = .ok (.getfield 48, 3) := of_row (r := (12, .getfield 48, 3)) DX1_emitDownTo_b0 6 rfl
theorem dX1_emitDownTo_15 : decode cX1_emitDownTo 15 = .ok (.iconst 1, 1) := of_row (r := (15, .iconst 1, 1)) DX1_emitDownTo_b0 7 rfl
theorem dX1_emitDownTo_16 : decode cX1_emitDownTo 16 = .ok (.isub, 1) := of_row (r := (16, .isub, 1)) DX1_emitDownTo_b0 8 rfl
theorem dX1_emitDownTo_17 : decode cX1_emitDownTo 17 = .ok (.iaload, 1) := of_row (r := (17, .iaload, 1)) DX1_emitDownTo_b0 9 rfl
theorem dX1_emitDownTo_18 : decode cX1_emitDownTo 18 = .ok (.invokestatic 174, 3) := of_row (r := (18, .invokestatic 174, 3)) DX1_emitDownTo_b0 10 rfl
theorem dX1_emitDownTo_21 : decode cX1_emitDownTo 21 = .ok (.iload_n 1, 1) := of_row (r := (21, .iload_n 1, 1)) DX1_emitDownTo_b0 11 rfl
theorem dX1_emitDownTo_22 : decode cX1_emitDownTo 22 = .ok (.if_icmp .lt 54, 3) := of_row (r := (22, .if_icmp .lt 54, 3)) DX1_emitDownTo_b0 12 rfl
theorem dX1_emitDownTo_25 : decode cX1_emitDownTo 25 = .ok (.aload_n 0, 1) := of_row (r := (25, .aload_n 0, 1)) DX1_emitDownTo_b0 13 rfl
theorem dX1_emitDownTo_26 : decode cX1_emitDownTo 26 = .ok (.dup, 1) := of_row (r := (26, .dup, 1)) DX1_emitDownTo_b0 14 rfl
theorem dX1_emitDownTo_27 : decode cX1_emitDownTo 27 = .ok (.getfield 48, 3) := of_row (r := (27, .getfield 48, 3)) DX1_emitDownTo_b0 15 rfl
theorem dX1_emitDownTo_30 : decode cX1_emitDownTo 30 = .ok (.iconst 1, 1) := of_row (r := (30, .iconst 1, 1)) DX1_emitDownTo_b0 16 rfl
theorem dX1_emitDownTo_31 : decode cX1_emitDownTo 31 = .ok (.isub, 1) := of_row (r := (31, .isub, 1)) DX1_emitDownTo_b0 17 rfl
theorem dX1_emitDownTo_32 : decode cX1_emitDownTo 32 = .ok (.putfield 48, 3) := of_row (r := (32, .putfield 48, 3)) DX1_emitDownTo_b0 18 rfl
theorem dX1_emitDownTo_35 : decode cX1_emitDownTo 35 = .ok (.aload_n 0, 1) := of_row (r := (35, .aload_n 0, 1)) DX1_emitDownTo_b0 19 rfl
theorem dX1_emitDownTo_36 : decode cX1_emitDownTo 36 = .ok (.aload_n 0, 1) := of_row (r := (36, .aload_n 0, 1)) DX1_emitDownTo_b0 20 rfl
theorem dX1_emitDownTo_37 : decode cX1_emitDownTo 37 = .ok (.getfield 11, 3) := of_row (r := (37, .getfield 11, 3)) DX1_emitDownTo_b0 21 rfl
theorem dX1_emitDownTo_40 : decode cX1_emitDownTo 40 = .ok (.aload_n 0, 1) := of_row (r := (40, .aload_n 0, 1)) DX1_emitDownTo_b0 22 rfl
theorem dX1_emitDownTo_41 : decode cX1_emitDownTo 41 = .ok (.getfield 48, 3) := of_row (r := (41, .getfield 48, 3)) DX1_emitDownTo_b0 23 rfl
theorem dX1_emitDownTo_44 : decode cX1_emitDownTo 44 = .ok (.iaload, 1) := of_row (r := (44, .iaload, 1)) DX1_emitDownTo_b0 24 rfl
theorem dX1_emitDownTo_45 : decode cX1_emitDownTo 45 = .ok (.ineg, 1) := of_row (r := (45, .ineg, 1)) DX1_emitDownTo_b0 25 rfl
theorem dX1_emitDownTo_46 : decode cX1_emitDownTo 46 = .ok (.invokevirtual 168, 3) := of_row (r := (46, .invokevirtual 168, 3)) DX1_emitDownTo_b0 26 rfl
theorem dX1_emitDownTo_49 : decode cX1_emitDownTo 49 = .ok (.aload_n 0, 1) := of_row (r := (49, .aload_n 0, 1)) DX1_emitDownTo_b0 27 rfl
theorem dX1_emitDownTo_50 : decode cX1_emitDownTo 50 = .ok (.getfield 11, 3) := of_row (r := (50, .getfield 11, 3)) DX1_emitDownTo_b0 28 rfl
theorem dX1_emitDownTo_53 : decode cX1_emitDownTo 53 = .ok (.aload_n 0, 1) := of_row (r := (53, .aload_n 0, 1)) DX1_emitDownTo_b0 29 rfl
theorem dX1_emitDownTo_54 : decode cX1_emitDownTo 54 = .ok (.getfield 48, 3) := of_row (r := (54, .getfield 48, 3)) DX1_emitDownTo_b0 30 rfl
theorem dX1_emitDownTo_57 : decode cX1_emitDownTo 57 = .ok (.iaload, 1) := of_row (r := (57, .iaload, 1)) DX1_emitDownTo_b0 31 rfl
theorem dX1_emitDownTo_58 : decode cX1_emitDownTo 58 = .ok (.bipush 10, 2) := of_row (r := (58, .bipush 10, 2)) DX1_emitDownTo_b0 32 rfl
theorem dX1_emitDownTo_60 : decode cX1_emitDownTo 60 = .ok (.if_icmp .ne (-60), 3) := of_row (r := (60, .if_icmp .ne (-60), 3)) DX1_emitDownTo_b0 33 rfl
theorem dX1_emitDownTo_63 : decode cX1_emitDownTo 63 = .ok (.aload_n 0, 1) := of_row (r := (63, .aload_n 0, 1)) DX1_emitDownTo_b0 34 rfl
theorem dX1_emitDownTo_64 : decode cX1_emitDownTo 64 = .ok (.dup, 1) := of_row (r := (64, .dup, 1)) DX1_emitDownTo_b0 35 rfl
theorem dX1_emitDownTo_65 : decode cX1_emitDownTo 65 = .ok (.getfield 45, 3) := of_row (r := (65, .getfield 45, 3)) DX1_emitDownTo_b0 36 rfl
theorem dX1_emitDownTo_68 : decode cX1_emitDownTo 68 = .ok (.iconst 1, 1) := of_row (r := (68, .iconst 1, 1)) DX1_emitDownTo_b0 37 rfl
theorem dX1_emitDownTo_69 : decode cX1_emitDownTo 69 = .ok (.isub, 1) := of_row (r := (69, .isub, 1)) DX1_emitDownTo_b0 38 rfl
theorem dX1_emitDownTo_70 : decode cX1_emitDownTo 70 = .ok (.putfield 45, 3) := of_row (r := (70, .putfield 45, 3)) DX1_emitDownTo_b0 39 rfl
theorem dX1_emitDownTo_73 : decode cX1_emitDownTo 73 = .ok (.goto (-73), 3) := of_row (r := (73, .goto (-73), 3)) DX1_emitDownTo_b0 40 rfl
theorem dX1_emitDownTo_76 : decode cX1_emitDownTo 76 = .ok (.return_, 1) := of_row (r := (76, .return_, 1)) DX1_emitDownTo_b0 41 rfl
set_option maxRecDepth 20000 in
theorem DX1_dropOpen_b0 : ([(0, .aload_n 0, 1), (1, .getfield 48, 3), (4, .ifCond .le 33, 3), (7, .aload_n 0, 1), (8, .dup, 1), (9, .getfield 48, 3), (12, .iconst 1, 1), (13, .isub, 1), (14, .putfield 48, 3), (17, .aload_n 0, 1), (18, .dup, 1), (19, .getfield 42, 3), (22, .iconst 1, 1), (23, .isub, 1), (24, .putfield 42, 3), (27, .aload_n 0, 1), (28, .dup, 1), (29, .getfield 45, 3), (32, .iconst 1, 1), (33, .isub, 1), (34, .putfield 45, 3), (37, .return_, 1)] : List (Nat × Instr × Nat)).all (fun r => decide (decode cX1_dropOpen r.1 = .ok r.2)) = true := by decide +kernel
theorem dX1_dropOpen_0 : decode cX1_dropOpen 0 = .ok (.aload_n 0, 1) := of_row (r := (0, .aload_n 0, 1)) DX1_dropOpen_b0 0 rfl
theorem dX1_dropOpen_1 : decode cX1_dropOpen 1 = .ok (.getfield 48, 3) := of_row (r := (1, .getfield 48, 3)) DX1_dropOpen_b0 1 rfl
theorem dX1_dropOpen_4 : decode cX1_dropOpen 4 = .ok (.ifCond .le 33, 3) := of_row (r := (4, .ifCond .le 33, 3)) DX1_dropOpen_b0 2 rfl
theorem dX1_dropOpen_7 : decode cX1_dropOpen 7 = .ok (.aload_n 0, 1) := of_row (r := (7, .aload_n 0, 1)) DX1_dropOpen_b0 3 rfl
theorem dX1_dropOpen_8 : decode cX1_dropOpen 8 = .ok (.dup, 1) := of_row (r := (8, .dup, 1)) DX1_dropOpen_b0 4 rfl
theorem dX1_dropOpen_9 : decode cX1_dropOpen 9 = .ok (.getfield 48, 3) := of_row (r := (9, .getfield 48, 3)) DX1_dropOpen_b0 5 rfl
theorem dX1_dropOpen_12 : decode cX1_dropOpen 12 = .ok (.iconst 1, 1) := of_row (r := (12, .iconst 1, 1)) DX1_dropOpen_b0 6 rfl
theorem dX1_dropOpen_13 : decode cX1_dropOpen 13 = .ok (.isub, 1) := of_row (r := (13, .isub, 1)) DX1_dropOpen_b0 7 rfl
theorem dX1_dropOpen_14 : decode cX1_dropOpen 14 = .ok (.putfield 48, 3) := of_row (r := (14, .putfield 48, 3)) DX1_dropOpen_b0 8 rfl
theorem dX1_dropOpen_17 : decode cX1_dropOpen 17 = .ok (.aload_n 0, 1) := of_row (r := (17, .aload_n 0, 1)) DX1_dropOpen_b0 9 rfl
theorem dX1_dropOpen_18 : decode cX1_dropOpen 18 = .ok (.dup, 1) := of_row (r := (18, .dup, 1)) DX1_dropOpen_b0 10 rfl
theorem dX1_dropOpen_19 : decode cX1_dropOpen 19 = .ok (.getfield 42, 3) := of_row (r := (19, .getfield 42, 3)) DX1_dropOpen_b0 11 rfl
theorem dX1_dropOpen_22 : decode cX1_dropOpen 22 = .ok (.iconst 1, 1) := of_row (r := (22, .iconst 1, 1)) DX1_dropOpen_b0 12 rfl
theorem dX1_dropOpen_23 : decode cX1_dropOpen 23 = .ok (.isub, 1) := of_row (r := (23, .isub, 1)) DX1_dropOpen_b0 13 rfl
theorem dX1_dropOpen_24 : decode cX1_dropOpen 24 = .ok (.putfield 42, 3) := of_row (r := (24, .putfield 42, 3)) DX1_dropOpen_b0 14 rfl
theorem dX1_dropOpen_27 : decode cX1_dropOpen 27 = .ok (.aload_n 0, 1) := of_row (r := (27, .aload_n 0, 1)) DX1_dropOpen_b0 15 rfl
theorem dX1_dropOpen_28 : decode cX1_dropOpen 28 = .ok (.dup, 1) := of_row (r := (28, .dup, 1)) DX1_dropOpen_b0 16 rfl
theorem dX1_dropOpen_29 : decode cX1_dropOpen 29 = .ok (.getfield 45, 3) := of_row (r := (29, .getfield 45, 3)) DX1_dropOpen_b0 17 rfl
theorem dX1_dropOpen_32 : decode cX1_dropOpen 32 = .ok (.iconst 1, 1) := of_row (r := (32, .iconst 1, 1)) DX1_dropOpen_b0 18 rfl
theorem dX1_dropOpen_33 : decode cX1_dropOpen 33 = .ok (.isub, 1) := of_row (r := (33, .isub, 1)) DX1_dropOpen_b0 19 rfl
theorem dX1_dropOpen_34 : decode cX1_dropOpen 34 = .ok (.putfield 45, 3) := of_row (r := (34, .putfield 45, 3)) DX1_dropOpen_b0 20 rfl
theorem dX1_dropOpen_37 : decode cX1_dropOpen 37 = .ok (.return_, 1) := of_row (r := (37, .return_, 1)) DX1_dropOpen_b0 21 rfl
set_option maxRecDepth 20000 in
theorem DX1_push_b0 : ([(0, .aload_n 0, 1), (1, .getfield 48, 3), (4, .bipush 64, 2), (6, .if_icmp .ge 23, 3), (9, .aload_n 0, 1), (10, .getfield 11, 3), (13, .aload_n 0, 1), (14, .getfield 48, 3), (17, .iload_n 1, 1), (18, .iastore, 1), (19, .aload_n 0, 1), (20, .dup, 1), (21, .getfield 48, 3), (24, .iconst 1, 1), (25, .iadd, 1), (26, .putfield 48, 3), (29, .return_, 1)] : List (Nat × Instr × Nat)).all (fun r => decide (decode cX1_push r.1 = .ok r.2)) = true := by decide +kernel
theorem dX1_push_0 : decode cX1_push 0 = .ok (.aload_n 0, 1) := of_row (r := (0, .aload_n 0, 1)) DX1_push_b0 0 rfl
theorem dX1_push_1 : decode cX1_push 1 = .ok (.getfield 48, 3) := of_row (r := (1, .getfield 48, 3)) DX1_push_b0 1 rfl
theorem dX1_push_4 : decode cX1_push 4 = .ok (.bipush 64, 2) := of_row (r := (4, .bipush 64, 2)) DX1_push_b0 2 rfl
theorem dX1_push_6 : decode cX1_push 6 = .ok (.if_icmp .ge 23, 3) := of_row (r := (6, .if_icmp .ge 23, 3)) DX1_push_b0 3 rfl
theorem dX1_push_9 : decode cX1_push 9 = .ok (.aload_n 0, 1) := of_row (r := (9, .aload_n 0, 1)) DX1_push_b0 4 rfl
theorem dX1_push_10 : decode cX1_push 10 = .ok (.getfield 11, 3) := of_row (r := (10, .getfield 11, 3)) DX1_push_b0 5 rfl
theorem dX1_push_13 : decode cX1_push 13 = .ok (.aload_n 0, 1) := of_row (r := (13, .aload_n 0, 1)) DX1_push_b0 6 rfl
theorem dX1_push_14 : decode cX1_push 14 = .ok (.getfield 48, 3) := of_row (r := (14, .getfield 48, 3)) DX1_push_b0 7 rfl
theorem dX1_push_17 : decode cX1_push 17 = .ok (.iload_n 1, 1) := of_row (r := (17, .iload_n 1, 1)) DX1_push_b0 8 rfl
theorem dX1_push_18 : decode cX1_push 18 = .ok (.iastore, 1) := of_row (r := (18, .iastore, 1)) DX1_push_b0 9 rfl
theorem dX1_push_19 : decode cX1_push 19 = .ok (.aload_n 0, 1) := of_row (r := (19, .aload_n 0, 1)) DX1_push_b0 10 rfl
theorem dX1_push_20 : decode cX1_push 20 = .ok (.dup, 1) := of_row (r := (20, .dup, 1)) DX1_push_b0 11 rfl
theorem dX1_push_21 : decode cX1_push 21 = .ok (.getfield 48, 3) := of_row (r := (21, .getfield 48, 3)) DX1_push_b0 12 rfl
theorem dX1_push_24 : decode cX1_push 24 = .ok (.iconst 1, 1) := of_row (r := (24, .iconst 1, 1)) DX1_push_b0 13 rfl
theorem dX1_push_25 : decode cX1_push 25 = .ok (.iadd, 1) := of_row (r := (25, .iadd, 1)) DX1_push_b0 14 rfl
theorem dX1_push_26 : decode cX1_push 26 = .ok (.putfield 48, 3) := of_row (r := (26, .putfield 48, 3)) DX1_push_b0 15 rfl
theorem dX1_push_29 : decode cX1_push 29 = .ok (.return_, 1) := of_row (r := (29, .return_, 1)) DX1_push_b0 16 rfl
set_option maxRecDepth 20000 in
theorem DX1_emit_b0 : ([(0, .aload_n 0, 1), (1, .getfield 54, 3), (4, .sipush 800, 3), (7, .if_icmp .ge 23, 3), (10, .aload_n 0, 1), (11, .getfield 24, 3), (14, .aload_n 0, 1), (15, .getfield 54, 3), (18, .iload_n 1, 1), (19, .iastore, 1), (20, .aload_n 0, 1), (21, .dup, 1), (22, .getfield 54, 3), (25, .iconst 1, 1), (26, .iadd, 1), (27, .putfield 54, 3), (30, .return_, 1)] : List (Nat × Instr × Nat)).all (fun r => decide (decode cX1_emit r.1 = .ok r.2)) = true := by decide +kernel
theorem dX1_emit_0 : decode cX1_emit 0 = .ok (.aload_n 0, 1) := of_row (r := (0, .aload_n 0, 1)) DX1_emit_b0 0 rfl
theorem dX1_emit_1 : decode cX1_emit 1 = .ok (.getfield 54, 3) := of_row (r := (1, .getfield 54, 3)) DX1_emit_b0 1 rfl
theorem dX1_emit_4 : decode cX1_emit 4 = .ok (.sipush 800, 3) := of_row (r := (4, .sipush 800, 3)) DX1_emit_b0 2 rfl
theorem dX1_emit_7 : decode cX1_emit 7 = .ok (.if_icmp .ge 23, 3) := of_row (r := (7, .if_icmp .ge 23, 3)) DX1_emit_b0 3 rfl
theorem dX1_emit_10 : decode cX1_emit 10 = .ok (.aload_n 0, 1) := of_row (r := (10, .aload_n 0, 1)) DX1_emit_b0 4 rfl
theorem dX1_emit_11 : decode cX1_emit 11 = .ok (.getfield 24, 3) := of_row (r := (11, .getfield 24, 3)) DX1_emit_b0 5 rfl
theorem dX1_emit_14 : decode cX1_emit 14 = .ok (.aload_n 0, 1) := of_row (r := (14, .aload_n 0, 1)) DX1_emit_b0 6 rfl
theorem dX1_emit_15 : decode cX1_emit 15 = .ok (.getfield 54, 3) := of_row (r := (15, .getfield 54, 3)) DX1_emit_b0 7 rfl
theorem dX1_emit_18 : decode cX1_emit 18 = .ok (.iload_n 1, 1) := of_row (r := (18, .iload_n 1, 1)) DX1_emit_b0 8 rfl
theorem dX1_emit_19 : decode cX1_emit 19 = .ok (.iastore, 1) := of_row (r := (19, .iastore, 1)) DX1_emit_b0 9 rfl
theorem dX1_emit_20 : decode cX1_emit 20 = .ok (.aload_n 0, 1) := of_row (r := (20, .aload_n 0, 1)) DX1_emit_b0 10 rfl
theorem dX1_emit_21 : decode cX1_emit 21 = .ok (.dup, 1) := of_row (r := (21, .dup, 1)) DX1_emit_b0 11 rfl
theorem dX1_emit_22 : decode cX1_emit 22 = .ok (.getfield 54, 3) := of_row (r := (22, .getfield 54, 3)) DX1_emit_b0 12 rfl
theorem dX1_emit_25 : decode cX1_emit 25 = .ok (.iconst 1, 1) := of_row (r := (25, .iconst 1, 1)) DX1_emit_b0 13 rfl
theorem dX1_emit_26 : decode cX1_emit 26 = .ok (.iadd, 1) := of_row (r := (26, .iadd, 1)) DX1_emit_b0 14 rfl
theorem dX1_emit_27 : decode cX1_emit 27 = .ok (.putfield 54, 3) := of_row (r := (27, .putfield 54, 3)) DX1_emit_b0 15 rfl
theorem dX1_emit_30 : decode cX1_emit 30 = .ok (.return_, 1) := of_row (r := (30, .return_, 1)) DX1_emit_b0 16 rfl
set_option maxRecDepth 20000 in
theorem DX2_init_b0 : ([(0, .aload_n 0, 1), (1, .invokespecial 3, 3), (4, .aload_n 0, 1), (5, .iload_n 1, 1), (6, .iconst 1, 1), (7, .invokestatic 9, 3), (10, .putfield 15, 3), (13, .aload_n 0, 1), (14, .iload_n 2, 1), (15, .putfield 21, 3), (18, .aload_n 0, 1), (19, .aload_n 0, 1), (20, .getfield 15, 3), (23, .bipush 16, 2), (25, .imul, 1), (26, .newarray .int, 2), (28, .putfield 24, 3), (31, .return_, 1)] : List (Nat × Instr × Nat)).all (fun r => decide (decode cX2_init r.1 = .ok r.2)) = true := by decide +kernel
theorem dX2_init_0 : decode cX2_init 0 = .ok (.aload_n 0, 1) := of_row (r := (0, .aload_n 0, 1)) DX2_init_b0 0 rfl
theorem dX2_init_1 : decode cX2_init 1 = .ok (.invokespecial 3, 3) := of_row (r := (1, .invokespecial 3, 3)) DX2_init_b0 1 rfl
theorem dX2_init_4 : decode cX2_init 4 = .ok (.aload_n 0, 1) := of_row (r := (4, .aload_n 0, 1)) DX2_init_b0 2 rfl
theorem dX2_init_5 : decode cX2_init 5 = .ok (.iload_n 1, 1) := of_row (r := (5, .iload_n 1, 1)) DX2_init_b0 3 rfl
theorem dX2_init_6 : decode cX2_init 6 = .ok (.iconst 1, 1) := of_row (r := (6, .iconst 1, 1)) DX2_init_b0 4 rfl
theorem dX2_init_7 : decode cX2_init 7 = .ok (.invokestatic 9, 3) := of_row (r := (7, .invokestatic 9, 3)) DX2_init_b0 5 rfl
theorem dX2_init_10 : decode cX2_init 10 = .ok (.putfield 15, 3) := of_row (r := (10, .putfield 15, 3)) DX2_init_b0 6 rfl
theorem dX2_init_13 : decode cX2_init 13 = .ok (.aload_n 0, 1) := of_row (r := (13, .aload_n 0, 1)) DX2_init_b0 7 rfl
theorem dX2_init_14 : decode cX2_init 14 = .ok (.iload_n 2, 1) := of_row (r := (14, .iload_n 2, 1)) DX2_init_b0 8 rfl
theorem dX2_init_15 : decode cX2_init 15 = .ok (.putfield 21, 3) := of_row (r := (15, .putfield 21, 3)) DX2_init_b0 9 rfl
theorem dX2_init_18 : decode cX2_init 18 = .ok (.aload_n 0, 1) := of_row (r := (18, .aload_n 0, 1)) DX2_init_b0 10 rfl
theorem dX2_init_19 : decode cX2_init 19 = .ok (.aload_n 0, 1) := of_row (r := (19, .aload_n 0, 1)) DX2_init_b0 11 rfl
theorem dX2_init_20 : decode cX2_init 20 = .ok (.getfield 15, 3) := of_row (r := (20, .getfield 15, 3)) DX2_init_b0 12 rfl
theorem dX2_init_23 : decode cX2_init 23 = .ok (.bipush 16, 2) := of_row (r := (23, .bipush 16, 2)) DX2_init_b0 13 rfl
theorem dX2_init_25 : decode cX2_init 25 = .ok (.imul, 1) := of_row (r := (25, .imul, 1)) DX2_init_b0 14 rfl
theorem dX2_init_26 : decode cX2_init 26 = .ok (.newarray .int, 2) := of_row (r := (26, .newarray .int, 2)) DX2_init_b0 15 rfl
theorem dX2_init_28 : decode cX2_init 28 = .ok (.putfield 24, 3) := of_row (r := (28, .putfield 24, 3)) DX2_init_b0 16 rfl
theorem dX2_init_31 : decode cX2_init 31 = .ok (.return_, 1) := of_row (r := (31, .return_, 1)) DX2_init_b0 17 rfl
set_option maxRecDepth 20000 in
theorem DX2_hasRoom_b0 : ([(0, .aload_n 0, 1), (1, .getfield 28, 3), (4, .iload_n 1, 1), (5, .iadd, 1), (6, .aload_n 0, 1), (7, .getfield 21, 3), (10, .if_icmp .gt 7, 3), (13, .iconst 1, 1), (14, .goto 4, 3), (17, .iconst 0, 1), (18, .ireturn, 1)] : List (Nat × Instr × Nat)).all (fun r => decide (decode cX2_hasRoom r.1 = .ok r.2)) = true := by decide +kernel
theorem dX2_hasRoom_0 : decode cX2_hasRoom 0 = .ok (.aload_n 0, 1) := of_row (r := (0, .aload_n 0, 1)) DX2_hasRoom_b0 0 rfl
theorem dX2_hasRoom_1 : decode cX2_hasRoom 1 = .ok (.getfield 28, 3) := of_row (r := (1, .getfield 28, 3)) DX2_hasRoom_b0 1 rfl
theorem dX2_hasRoom_4 : decode cX2_hasRoom 4 = .ok (.iload_n 1, 1) := of_row (r := (4, .iload_n 1, 1)) DX2_hasRoom_b0 2 rfl
theorem dX2_hasRoom_5 : decode cX2_hasRoom 5 = .ok (.iadd, 1) := of_row (r := (5, .iadd, 1)) DX2_hasRoom_b0 3 rfl
theorem dX2_hasRoom_6 : decode cX2_hasRoom 6 = .ok (.aload_n 0, 1) := of_row (r := (6, .aload_n 0, 1)) DX2_hasRoom_b0 4 rfl
theorem dX2_hasRoom_7 : decode cX2_hasRoom 7 = .ok (.getfield 21, 3) := of_row (r := (7, .getfield 21, 3)) DX2_hasRoom_b0 5 rfl
theorem dX2_hasRoom_10 : decode cX2_hasRoom 10 = .ok (.if_icmp .gt 7, 3) := of_row (r := (10, .if_icmp .gt 7, 3)) DX2_hasRoom_b0 6 rfl
theorem dX2_hasRoom_13 : decode cX2_hasRoom 13 = .ok (.iconst 1, 1) := of_row (r := (13, .iconst 1, 1)) DX2_hasRoom_b0 7 rfl
theorem dX2_hasRoom_14 : decode cX2_hasRoom 14 = .ok (.goto 4, 3) := of_row (r := (14, .goto 4, 3)) DX2_hasRoom_b0 8 rfl
theorem dX2_hasRoom_17 : decode cX2_hasRoom 17 = .ok (.iconst 0, 1) := of_row (r := (17, .iconst 0, 1)) DX2_hasRoom_b0 9 rfl
theorem dX2_hasRoom_18 : decode cX2_hasRoom 18 = .ok (.ireturn, 1) := of_row (r := (18, .ireturn, 1)) DX2_hasRoom_b0 10 rfl
set_option maxRecDepth 20000 in
theorem DX2_has_b0 : ([(0, .iload_n 1, 1), (1, .ifCond .lt 27, 3), (4, .iload_n 1, 1), (5, .aload_n 0, 1), (6, .getfield 28, 3), (9, .if_icmp .ge 19, 3), (12, .iload_n 2, 1), (13, .ifCond .lt 15, 3), (16, .iload_n 2, 1), (17, .aload_n 0, 1), (18, .getfield 15, 3), (21, .if_icmp .ge 7, 3), (24, .iconst 1, 1), (25, .goto 4, 3), (28, .iconst 0, 1), (29, .ireturn, 1)] : List (Nat × Instr × Nat)).all (fun r => decide (decode cX2_has r.1 = .ok r.2)) = true := by decide +kernel
theorem dX2_has_0 : decode cX2_has 0 = .ok (.iload_n 1, 1) := of_row (r := (0, .iload_n 1, 1)) DX2_has_b0 0 rfl
theorem dX2_has_1 : decode cX2_has 1 = .ok (.ifCond .lt 27, 3) := of_row (r := (1, .ifCond .lt 27, 3)) DX2_has_b0 1 rfl
theorem dX2_has_4 : decode cX2_has 4 = .ok (.iload_n 1, 1) := of_row (r := (4, .iload_n 1, 1)) DX2_has_b0 2 rfl
theorem dX2_has_5 : decode cX2_has 5 = .ok (.aload_n 0, 1) := of_row (r := (5, .aload_n 0, 1)) DX2_has_b0 3 rfl
theorem dX2_has_6 : decode cX2_has 6 = .ok (.getfield 28, 3) := of_row (r := (6, .getfield 28, 3)) DX2_has_b0 4 rfl
theorem dX2_has_9 : decode cX2_has 9 = .ok (.if_icmp .ge 19, 3) := of_row (r := (9, .if_icmp .ge 19, 3)) DX2_has_b0 5 rfl
theorem dX2_has_12 : decode cX2_has 12 = .ok (.iload_n 2, 1) := of_row (r := (12, .iload_n 2, 1)) DX2_has_b0 6 rfl
theorem dX2_has_13 : decode cX2_has 13 = .ok (.ifCond .lt 15, 3) := of_row (r := (13, .ifCond .lt 15, 3)) DX2_has_b0 7 rfl
theorem dX2_has_16 : decode cX2_has 16 = .ok (.iload_n 2, 1) := of_row (r := (16, .iload_n 2, 1)) DX2_has_b0 8 rfl
theorem dX2_has_17 : decode cX2_has 17 = .ok (.aload_n 0, 1) := of_row (r := (17, .aload_n 0, 1)) DX2_has_b0 9 rfl
theorem dX2_has_18 : decode cX2_has 18 = .ok (.getfield 15, 3) := of_row (r := (18, .getfield 15, 3)) DX2_has_b0 10 rfl
theorem dX2_has_21 : decode cX2_has 21 = .ok (.if_icmp .ge 7, 3) := of_row (r := (21, .if_icmp .ge 7, 3)) DX2_has_b0 11 rfl
theorem dX2_has_24 : decode cX2_has 24 = .ok (.iconst 1, 1) := of_row (r := (24, .iconst 1, 1)) DX2_has_b0 12 rfl
theorem dX2_has_25 : decode cX2_has 25 = .ok (.goto 4, 3) := of_row (r := (25, .goto 4, 3)) DX2_has_b0 13 rfl
theorem dX2_has_28 : decode cX2_has 28 = .ok (.iconst 0, 1) := of_row (r := (28, .iconst 0, 1)) DX2_has_b0 14 rfl
theorem dX2_has_29 : decode cX2_has 29 = .ok (.ireturn, 1) := of_row (r := (29, .ireturn, 1)) DX2_has_b0 15 rfl
set_option maxRecDepth 20000 in
theorem DX2_add_b0 : ([(0, .aload_n 0, 1), (1, .iconst 1, 1), (2, .invokevirtual 31, 3), (5, .ifCond .ne 5, 3), (8, .iconst (-1), 1), (9, .ireturn, 1), (10, .aload_n 0, 1), (11, .getfield 28, 3), (14, .iconst 1, 1), (15, .iadd, 1), (16, .aload_n 0, 1), (17, .getfield 15, 3), (20, .imul, 1), (21, .aload_n 0, 1), (22, .getfield 24, 3), (25, .arraylength, 1), (26, .if_icmp .le 21, 3), (29, .aload_n 0, 1), (30, .aload_n 0, 1), (31, .getfield 24, 3), (34, .aload_n 0, 1), (35, .getfield 24, 3), (38, .arraylength, 1), (39, .iconst 2, 1), (40, .imul, 1), (41, .invokestatic 35, 3), (44, .putfield 24, 3), (47, .aload_n 0, 1), (48, .dup, 1), (49, .getfield 28, 3), (52, .dup_x1, 1), (53, .iconst 1, 1), (54, .iadd, 1), (55, .putfield 28, 3), (58, .ireturn, 1)] : List (Nat × Instr × Nat)).all (fun r => decide (decode cX2_add r.1 = .ok r.2)) = true := by decide +kernel
theorem dX2_add_0 : decode cX2_add 0 = .ok (.aload_n 0, 1) := of_row (r := (0, .aload_n 0, 1)) DX2_add_b0 0 rfl
theorem dX2_add_1 : decode cX2_add 1 = .ok (.iconst 1, 1) := of_row (r := (1, .iconst 1, 1)) DX2_add_b0 1 rfl
theorem dX2_add_2 : decode cX2_add 2 = .ok (.invokevirtual 31, 3) := of_row (r := (2, .invokevirtual 31, 3)) DX2_add_b0 2 rfl
theorem dX2_add_5 : decode cX2_add 5 = .ok (.ifCond .ne 5, 3) := of_row (r := (5, .ifCond .ne 5, 3)) DX2_add_b0 3 rfl
theorem dX2_add_8 : decode cX2_add 8 = .ok (.iconst (-1), 1) := of_row (r := (8, .iconst (-1), 1)) DX2_add_b0 4 rfl
theorem dX2_add_9 : decode cX2_add 9 = .ok (.ireturn, 1) := of_row (r := (9, .ireturn, 1)) DX2_add_b0 5 rfl
theorem dX2_add_10 : decode cX2_add 10 = .ok (.aload_n 0, 1) := of_row (r := (10, .aload_n 0, 1)) DX2_add_b0 6 rfl
theorem dX2_add_11 : decode cX2_add 11 = .ok (.getfield 28, 3) := of_row (r := (11, .getfield 28, 3)) DX2_add_b0 7 rfl
theorem dX2_add_14 : decode cX2_add 14 = .ok (.iconst 1, 1) := of_row (r := (14, .iconst 1, 1)) DX2_add_b0 8 rfl
theorem dX2_add_15 : decode cX2_add 15 = .ok (.iadd, 1) := of_row (r := (15, .iadd, 1)) DX2_add_b0 9 rfl
theorem dX2_add_16 : decode cX2_add 16 = .ok (.aload_n 0, 1) := of_row (r := (16, .aload_n 0, 1)) DX2_add_b0 10 rfl
theorem dX2_add_17 : decode cX2_add 17 = .ok (.getfield 15, 3) := of_row (r := (17, .getfield 15, 3)) DX2_add_b0 11 rfl
theorem dX2_add_20 : decode cX2_add 20 = .ok (.imul, 1) := of_row (r := (20, .imul, 1)) DX2_add_b0 12 rfl
theorem dX2_add_21 : decode cX2_add 21 = .ok (.aload_n 0, 1) := of_row (r := (21, .aload_n 0, 1)) DX2_add_b0 13 rfl
theorem dX2_add_22 : decode cX2_add 22 = .ok (.getfield 24, 3) := of_row (r := (22, .getfield 24, 3)) DX2_add_b0 14 rfl
theorem dX2_add_25 : decode cX2_add 25 = .ok (.arraylength, 1) := of_row (r := (25, .arraylength, 1)) DX2_add_b0 15 rfl
theorem dX2_add_26 : decode cX2_add 26 = .ok (.if_icmp .le 21, 3) := of_row (r := (26, .if_icmp .le 21, 3)) DX2_add_b0 16 rfl
theorem dX2_add_29 : decode cX2_add 29 = .ok (.aload_n 0, 1) := of_row (r := (29, .aload_n 0, 1)) DX2_add_b0 17 rfl
theorem dX2_add_30 : decode cX2_add 30 = .ok (.aload_n 0, 1) := of_row (r := (30, .aload_n 0, 1)) DX2_add_b0 18 rfl
theorem dX2_add_31 : decode cX2_add 31 = .ok (.getfield 24, 3) := of_row (r := (31, .getfield 24, 3)) DX2_add_b0 19 rfl
theorem dX2_add_34 : decode cX2_add 34 = .ok (.aload_n 0, 1) := of_row (r := (34, .aload_n 0, 1)) DX2_add_b0 20 rfl
theorem dX2_add_35 : decode cX2_add 35 = .ok (.getfield 24, 3) := of_row (r := (35, .getfield 24, 3)) DX2_add_b0 21 rfl
theorem dX2_add_38 : decode cX2_add 38 = .ok (.arraylength, 1) := of_row (r := (38, .arraylength, 1)) DX2_add_b0 22 rfl
theorem dX2_add_39 : decode cX2_add 39 = .ok (.iconst 2, 1) := of_row (r := (39, .iconst 2, 1)) DX2_add_b0 23 rfl
theorem dX2_add_40 : decode cX2_add 40 = .ok (.imul, 1) := of_row (r := (40, .imul, 1)) DX2_add_b0 24 rfl
theorem dX2_add_41 : decode cX2_add 41 = .ok (.invokestatic 35, 3) := of_row (r := (41, .invokestatic 35, 3)) DX2_add_b0 25 rfl
theorem dX2_add_44 : decode cX2_add 44 = .ok (.putfield 24, 3) := of_row (r := (44, .putfield 24, 3)) DX2_add_b0 26 rfl
theorem dX2_add_47 : decode cX2_add 47 = .ok (.aload_n 0, 1) := of_row (r := (47, .aload_n 0, 1)) DX2_add_b0 27 rfl
theorem dX2_add_48 : decode cX2_add 48 = .ok (.dup, 1) := of_row (r := (48, .dup, 1)) DX2_add_b0 28 rfl
theorem dX2_add_49 : decode cX2_add 49 = .ok (.getfield 28, 3) := of_row (r := (49, .getfield 28, 3)) DX2_add_b0 29 rfl
theorem dX2_add_52 : decode cX2_add 52 = .ok (.dup_x1, 1) := of_row (r := (52, .dup_x1, 1)) DX2_add_b0 30 rfl
theorem dX2_add_53 : decode cX2_add 53 = .ok (.iconst 1, 1) := of_row (r := (53, .iconst 1, 1)) DX2_add_b0 31 rfl
theorem dX2_add_54 : decode cX2_add 54 = .ok (.iadd, 1) := of_row (r := (54, .iadd, 1)) DX2_add_b0 32 rfl
theorem dX2_add_55 : decode cX2_add 55 = .ok (.putfield 28, 3) := of_row (r := (55, .putfield 28, 3)) DX2_add_b0 33 rfl
theorem dX2_add_58 : decode cX2_add 58 = .ok (.ireturn, 1) := of_row (r := (58, .ireturn, 1)) DX2_add_b0 34 rfl
set_option maxRecDepth 20000 in
theorem DX2_get_b0 : ([(0, .aload_n 0, 1), (1, .iload_n 1, 1), (2, .iload_n 2, 1), (3, .invokevirtual 41, 3), (6, .ifCond .eq 19, 3), (9, .aload_n 0, 1), (10, .getfield 24, 3), (13, .iload_n 1, 1), (14, .aload_n 0, 1), (15, .getfield 15, 3), (18, .imul, 1), (19, .iload_n 2, 1), (20, .iadd, 1), (21, .iaload, 1), (22, .goto 4, 3), (25, .iconst 0, 1), (26, .ireturn, 1)] : List (Nat × Instr × Nat)).all (fun r => decide (decode cX2_get r.1 = .ok r.2)) = true := by decide +kernel
theorem dX2_get_0 : decode cX2_get 0 = .ok (.aload_n 0, 1) := of_row (r := (0, .aload_n 0, 1)) DX2_get_b0 0 rfl
theorem dX2_get_1 : decode cX2_get 1 = .ok (.iload_n 1, 1) := of_row (r := (1, .iload_n 1, 1)) DX2_get_b0 1 rfl
theorem dX2_get_2 : decode cX2_get 2 = .ok (.iload_n 2, 1) := of_row (r := (2, .iload_n 2, 1)) DX2_get_b0 2 rfl
theorem dX2_get_3 : decode cX2_get 3 = .ok (.invokevirtual 41, 3) := of_row (r := (3, .invokevirtual 41, 3)) DX2_get_b0 3 rfl
theorem dX2_get_6 : decode cX2_get 6 = .ok (.ifCond .eq 19, 3) := of_row (r := (6, .ifCond .eq 19, 3)) DX2_get_b0 4 rfl
theorem dX2_get_9 : decode cX2_get 9 = .ok (.aload_n 0, 1) := of_row (r := (9, .aload_n 0, 1)) DX2_get_b0 5 rfl
theorem dX2_get_10 : decode cX2_get 10 = .ok (.getfield 24, 3) := of_row (r := (10, .getfield 24, 3)) DX2_get_b0 6 rfl
theorem dX2_get_13 : decode cX2_get 13 = .ok (.iload_n 1, 1) := of_row (r := (13, .iload_n 1, 1)) DX2_get_b0 7 rfl
theorem dX2_get_14 : decode cX2_get 14 = .ok (.aload_n 0, 1) := of_row (r := (14, .aload_n 0, 1)) DX2_get_b0 8 rfl
theorem dX2_get_15 : decode cX2_get 15 = .ok (.getfield 15, 3) := of_row (r := (15, .getfield 15, 3)) DX2_get_b0 9 rfl
theorem dX2_get_18 : decode cX2_get 18 = .ok (.imul, 1) := of_row (r := (18, .imul, 1)) DX2_get_b0 10 rfl
theorem dX2_get_19 : decode cX2_get 19 = .ok (.iload_n 2, 1) := of_row (r := (19, .iload_n 2, 1)) DX2_get_b0 11 rfl
theorem dX2_get_20 : decode cX2_get 20 = .ok (.iadd, 1) := of_row (r := (20, .iadd, 1)) DX2_get_b0 12 rfl
theorem dX2_get_21 : decode cX2_get 21 = .ok (.iaload, 1) := of_row (r := (21, .iaload, 1)) DX2_get_b0 13 rfl
theorem dX2_get_22 : decode cX2_get 22 = .ok (.goto 4, 3) := of_row (r := (22, .goto 4, 3)) DX2_get_b0 14 rfl
theorem dX2_get_25 : decode cX2_get 25 = .ok (.iconst 0, 1) := of_row (r := (25, .iconst 0, 1)) DX2_get_b0 15 rfl
theorem dX2_get_26 : decode cX2_get 26 = .ok (.ireturn, 1) := of_row (r := (26, .ireturn, 1)) DX2_get_b0 16 rfl
set_option maxRecDepth 20000 in
theorem DX2_set_b0 : ([(0, .aload_n 0, 1), (1, .iload_n 1, 1), (2, .iload_n 2, 1), (3, .invokevirtual 41, 3), (6, .ifCond .eq 17, 3), (9, .aload_n 0, 1), (10, .getfield 24, 3), (13, .iload_n 1, 1), (14, .aload_n 0, 1), (15, .getfield 15, 3), (18, .imul, 1), (19, .iload_n 2, 1), (20, .iadd, 1), (21, .iload_n 3, 1), (22, .iastore, 1), (23, .return_, 1)] : List (Nat × Instr × Nat)).all (fun r => decide (decode cX2_set r.1 = .ok r.2)) = true := by decide +kernel
theorem dX2_set_0 : decode cX2_set 0 = .ok (.aload_n 0, 1) := of_row (r := (0, .aload_n 0, 1)) DX2_set_b0 0 rfl
theorem dX2_set_1 : decode cX2_set 1 = .ok (.iload_n 1, 1) := of_row (r := (1, .iload_n 1, 1)) DX2_set_b0 1 rfl
theorem dX2_set_2 : decode cX2_set 2 = .ok (.iload_n 2, 1) := of_row (r := (2, .iload_n 2, 1)) DX2_set_b0 2 rfl
theorem dX2_set_3 : decode cX2_set 3 = .ok (.invokevirtual 41, 3) := of_row (r := (3, .invokevirtual 41, 3)) DX2_set_b0 3 rfl
theorem dX2_set_6 : decode cX2_set 6 = .ok (.ifCond .eq 17, 3) := of_row (r := (6, .ifCond .eq 17, 3)) DX2_set_b0 4 rfl
theorem dX2_set_9 : decode cX2_set 9 = .ok (.aload_n 0, 1) := of_row (r := (9, .aload_n 0, 1)) DX2_set_b0 5 rfl
theorem dX2_set_10 : decode cX2_set 10 = .ok (.getfield 24, 3) := of_row (r := (10, .getfield 24, 3)) DX2_set_b0 6 rfl
theorem dX2_set_13 : decode cX2_set 13 = .ok (.iload_n 1, 1) := of_row (r := (13, .iload_n 1, 1)) DX2_set_b0 7 rfl
theorem dX2_set_14 : decode cX2_set 14 = .ok (.aload_n 0, 1) := of_row (r := (14, .aload_n 0, 1)) DX2_set_b0 8 rfl
theorem dX2_set_15 : decode cX2_set 15 = .ok (.getfield 15, 3) := of_row (r := (15, .getfield 15, 3)) DX2_set_b0 9 rfl
theorem dX2_set_18 : decode cX2_set 18 = .ok (.imul, 1) := of_row (r := (18, .imul, 1)) DX2_set_b0 10 rfl
theorem dX2_set_19 : decode cX2_set 19 = .ok (.iload_n 2, 1) := of_row (r := (19, .iload_n 2, 1)) DX2_set_b0 11 rfl
theorem dX2_set_20 : decode cX2_set 20 = .ok (.iadd, 1) := of_row (r := (20, .iadd, 1)) DX2_set_b0 12 rfl
theorem dX2_set_21 : decode cX2_set 21 = .ok (.iload_n 3, 1) := of_row (r := (21, .iload_n 3, 1)) DX2_set_b0 13 rfl
theorem dX2_set_22 : decode cX2_set 22 = .ok (.iastore, 1) := of_row (r := (22, .iastore, 1)) DX2_set_b0 14 rfl
theorem dX2_set_23 : decode cX2_set 23 = .ok (.return_, 1) := of_row (r := (23, .return_, 1)) DX2_set_b0 15 rfl
set_option maxRecDepth 20000 in
theorem DX2_total_b0 : ([(0, .lconst 0, 1), (1, .lstore_n 2, 1), (2, .iconst 0, 1), (3, .istore 4, 2), (5, .iload 4, 2), (7, .aload_n 0, 1), (8, .getfield 28, 3), (11, .if_icmp .ge 20, 3), (14, .lload_n 2, 1), (15, .aload_n 0, 1), (16, .iload 4, 2), (18, .iload_n 1, 1), (19, .invokevirtual 45, 3), (22, .i2l, 1), (23, .ladd, 1), (24, .lstore_n 2, 1), (25, .iinc 4 1, 3), (28, .goto (-23), 3), (31, .lload_n 2, 1), (32, .lreturn, 1)] : List (Nat × Instr × Nat)).all (fun r => decide (decode cX2_total r.1 = .ok r.2)) = true := by decide +kernel
theorem dX2_total_0 : decode cX2_total 0 = .ok (.lconst 0, 1) := of_row (r := (0, .lconst 0, 1)) DX2_total_b0 0 rfl
theorem dX2_total_1 : decode cX2_total 1 = .ok (.lstore_n 2, 1) := of_row (r := (1, .lstore_n 2, 1)) DX2_total_b0 1 rfl
theorem dX2_total_2 : decode cX2_total 2 = .ok (.iconst 0, 1) := of_row (r := (2, .iconst 0, 1)) DX2_total_b0 2 rfl
theorem dX2_total_3 : decode cX2_total 3 = .ok (.istore 4, 2) := of_row (r := (3, .istore 4, 2)) DX2_total_b0 3 rfl
theorem dX2_total_5 : decode cX2_total 5 = .ok (.iload 4, 2) := of_row (r := (5, .iload 4, 2)) DX2_total_b0 4 rfl
theorem dX2_total_7 : decode cX2_total 7 = .ok (.aload_n 0, 1) := of_row (r := (7, .aload_n 0, 1)) DX2_total_b0 5 rfl
theorem dX2_total_8 : decode cX2_total 8 = .ok (.getfield 28, 3) := of_row (r := (8, .getfield 28, 3)) DX2_total_b0 6 rfl
theorem dX2_total_11 : decode cX2_total 11 = .ok (.if_icmp .ge 20, 3) := of_row (r := (11, .if_icmp .ge 20, 3)) DX2_total_b0 7 rfl
theorem dX2_total_14 : decode cX2_total 14 = .ok (.lload_n 2, 1) := of_row (r := (14, .lload_n 2, 1)) DX2_total_b0 8 rfl
theorem dX2_total_15 : decode cX2_total 15 = .ok (.aload_n 0, 1) := of_row (r := (15, .aload_n 0, 1)) DX2_total_b0 9 rfl
theorem dX2_total_16 : decode cX2_total 16 = .ok (.iload 4, 2) := of_row (r := (16, .iload 4, 2)) DX2_total_b0 10 rfl
theorem dX2_total_18 : decode cX2_total 18 = .ok (.iload_n 1, 1) := of_row (r := (18, .iload_n 1, 1)) DX2_total_b0 11 rfl
theorem dX2_total_19 : decode cX2_total 19 = .ok (.invokevirtual 45, 3) := of_row (r := (19, .invokevirtual 45, 3)) DX2_total_b0 12 rfl
theorem dX2_total_22 : decode cX2_total 22 = .ok (.i2l, 1) := of_row (r := (22, .i2l, 1)) DX2_total_b0 13 rfl
theorem dX2_total_23 : decode cX2_total 23 = .ok (.ladd, 1) := of_row (r := (23, .ladd, 1)) DX2_total_b0 14 rfl
theorem dX2_total_24 : decode cX2_total 24 = .ok (.lstore_n 2, 1) := of_row (r := (24, .lstore_n 2, 1)) DX2_total_b0 15 rfl
theorem dX2_total_25 : decode cX2_total 25 = .ok (.iinc 4 1, 3) := of_row (r := (25, .iinc 4 1, 3)) DX2_total_b0 16 rfl
theorem dX2_total_28 : decode cX2_total 28 = .ok (.goto (-23), 3) := of_row (r := (28, .goto (-23), 3)) DX2_total_b0 17 rfl
theorem dX2_total_31 : decode cX2_total 31 = .ok (.lload_n 2, 1) := of_row (r := (31, .lload_n 2, 1)) DX2_total_b0 18 rfl
theorem dX2_total_32 : decode cX2_total 32 = .ok (.lreturn, 1) := of_row (r := (32, .lreturn, 1)) DX2_total_b0 19 rfl
set_option maxRecDepth 20000 in
theorem DX3_init_b0 : ([(0, .aload_n 0, 1), (1, .invokespecial 3, 3), (4, .aload_n 0, 1), (5, .sipush 800, 3), (8, .newarray .byte, 2), (10, .putfield 9, 3), (13, .return_, 1)] : List (Nat × Instr × Nat)).all (fun r => decide (decode cX3_init r.1 = .ok r.2)) = true := by decide +kernel
theorem dX3_init_0 : decode cX3_init 0 = .ok (.aload_n 0, 1) := of_row (r := (0, .aload_n 0, 1)) DX3_init_b0 0 rfl
theorem dX3_init_1 : decode cX3_init 1 = .ok (.invokespecial 3, 3) := of_row (r := (1, .invokespecial 3, 3)) DX3_init_b0 1 rfl
theorem dX3_init_4 : decode cX3_init 4 = .ok (.aload_n 0, 1) := of_row (r := (4, .aload_n 0, 1)) DX3_init_b0 2 rfl
theorem dX3_init_5 : decode cX3_init 5 = .ok (.sipush 800, 3) := of_row (r := (5, .sipush 800, 3)) DX3_init_b0 3 rfl
theorem dX3_init_8 : decode cX3_init 8 = .ok (.newarray .byte, 2) := of_row (r := (8, .newarray .byte, 2)) DX3_init_b0 4 rfl
theorem dX3_init_10 : decode cX3_init 10 = .ok (.putfield 9, 3) := of_row (r := (10, .putfield 9, 3)) DX3_init_b0 5 rfl
theorem dX3_init_13 : decode cX3_init 13 = .ok (.return_, 1) := of_row (r := (13, .return_, 1)) DX3_init_b0 6 rfl
set_option maxRecDepth 20000 in
theorem DX3_hasRoom_b0 : ([(0, .aload_n 0, 1), (1, .getfield 15, 3), (4, .iload_n 1, 1), (5, .iadd, 1), (6, .sipush 800, 3), (9, .if_icmp .gt 7, 3), (12, .iconst 1, 1), (13, .goto 4, 3), (16, .iconst 0, 1), (17, .ireturn, 1)] : List (Nat × Instr × Nat)).all (fun r => decide (decode cX3_hasRoom r.1 = .ok r.2)) = true := by decide +kernel
theorem dX3_hasRoom_0 : decode cX3_hasRoom 0 = .ok (.aload_n 0, 1) := of_row (r := (0, .aload_n 0, 1)) DX3_hasRoom_b0 0 rfl
theorem dX3_hasRoom_1 : decode cX3_hasRoom 1 = .ok (.getfield 15, 3) := of_row (r := (1, .getfield 15, 3)) DX3_hasRoom_b0 1 rfl
theorem dX3_hasRoom_4 : decode cX3_hasRoom 4 = .ok (.iload_n 1, 1) := of_row (r := (4, .iload_n 1, 1)) DX3_hasRoom_b0 2 rfl
theorem dX3_hasRoom_5 : decode cX3_hasRoom 5 = .ok (.iadd, 1) := of_row (r := (5, .iadd, 1)) DX3_hasRoom_b0 3 rfl
theorem dX3_hasRoom_6 : decode cX3_hasRoom 6 = .ok (.sipush 800, 3) := of_row (r := (6, .sipush 800, 3)) DX3_hasRoom_b0 4 rfl
theorem dX3_hasRoom_9 : decode cX3_hasRoom 9 = .ok (.if_icmp .gt 7, 3) := of_row (r := (9, .if_icmp .gt 7, 3)) DX3_hasRoom_b0 5 rfl
theorem dX3_hasRoom_12 : decode cX3_hasRoom 12 = .ok (.iconst 1, 1) := of_row (r := (12, .iconst 1, 1)) DX3_hasRoom_b0 6 rfl
theorem dX3_hasRoom_13 : decode cX3_hasRoom 13 = .ok (.goto 4, 3) := of_row (r := (13, .goto 4, 3)) DX3_hasRoom_b0 7 rfl
theorem dX3_hasRoom_16 : decode cX3_hasRoom 16 = .ok (.iconst 0, 1) := of_row (r := (16, .iconst 0, 1)) DX3_hasRoom_b0 8 rfl
theorem dX3_hasRoom_17 : decode cX3_hasRoom 17 = .ok (.ireturn, 1) := of_row (r := (17, .ireturn, 1)) DX3_hasRoom_b0 9 rfl
set_option maxRecDepth 20000 in
theorem DX3_addFour_b0 : ([(0, .bipush 24, 2), (2, .istore_n 2, 1), (3, .iload_n 2, 1), (4, .ifCond .lt 40, 3), (7, .aload_n 0, 1), (8, .iconst 1, 1), (9, .invokevirtual 19, 3), (12, .ifCond .eq 26, 3), (15, .aload_n 0, 1), (16, .getfield 9, 3), (19, .aload_n 0, 1), (20, .getfield 15, 3), (23, .iload_n 1, 1), (24, .iload_n 2, 1), (25, .iushr, 1), (26, .i2b, 1), (27, .bastore, 1), (28, .aload_n 0, 1), (29, .dup, 1), (30, .getfield 15, 3), (33, .iconst 1, 1), (34, .iadd, 1), (35, .putfield 15, 3), (38, .iinc 2 (-8), 3), (41, .goto (-38), 3), (44, .return_, 1)] : List (Nat × Instr × Nat)).all (fun r => decide (decode cX3_addFour r.1 = .ok r.2)) = true := by decide +kernel
theorem dX3_addFour_0 : decode cX3_addFour 0 = .ok (.bipush 24, 2) := of_row (r := (0, .bipush 24, 2)) DX3_addFour_b0 0 rfl
theorem dX3_addFour_2 : decode cX3_addFour 2 = .ok (.istore_n 2, 1) := of_row (r := (2, .istore_n 2, 1)) DX3_addFour_b0 1 rfl
theorem dX3_addFour_3 : decode cX3_addFour 3 = .ok (.iload_n 2, 1) := of_row (r := (3, .iload_n 2, 1)) DX3_addFour_b0 2 rfl
theorem dX3_addFour_4 : decode cX3_addFour 4 = .ok (.ifCond .lt 40, 3) := of_row (r := (4, .ifCond .lt 40, 3)) DX3_addFour_b0 3 rfl
theorem dX3_addFour_7 : decode cX3_addFour 7 = .ok (.aload_n 0, 1) := of_row (r := (7, .aload_n 0, 1)) DX3_addFour_b0 4 rfl
theorem dX3_addFour_8 : decode cX3_addFour 8 = .ok (.iconst 1, 1) := of_row (r := (8, .iconst 1, 1)) DX3_addFour_b0 5 rfl
theorem dX3_addFour_9 : decode cX3_addFour 9 = .ok (.invokevirtual 19, 3) := of_row (r := (9, .invokevirtual 19, 3)) DX3_addFour_b0 6 rfl
theorem dX3_addFour_12 : decode cX3_addFour 12 = .ok (.ifCond .eq 26, 3) := of_row (r := (12, .ifCond .eq 26, 3)) DX3_addFour_b0 7 rfl
theorem dX3_addFour_15 : decode cX3_addFour 15 = .ok (.aload_n 0, 1) := of_row (r := (15, .aload_n 0, 1)) DX3_addFour_b0 8 rfl
theorem dX3_addFour_16 : decode cX3_addFour 16 = .ok (.getfield 9, 3) := of_row (r := (16, .getfield 9, 3)) DX3_addFour_b0 9 rfl
theorem dX3_addFour_19 : decode cX3_addFour 19 = .ok (.aload_n 0, 1) := of_row (r := (19, .aload_n 0, 1)) DX3_addFour_b0 10 rfl
theorem dX3_addFour_20 : decode cX3_addFour 20 = .ok (.getfield 15, 3) := of_row (r := (20, .getfield 15, 3)) DX3_addFour_b0 11 rfl
theorem dX3_addFour_23 : decode cX3_addFour 23 = .ok (.iload_n 1, 1) := of_row (r := (23, .iload_n 1, 1)) DX3_addFour_b0 12 rfl
theorem dX3_addFour_24 : decode cX3_addFour 24 = .ok (.iload_n 2, 1) := of_row (r := (24, .iload_n 2, 1)) DX3_addFour_b0 13 rfl
theorem dX3_addFour_25 : decode cX3_addFour 25 = .ok (.iushr, 1) := of_row (r := (25, .iushr, 1)) DX3_addFour_b0 14 rfl
theorem dX3_addFour_26 : decode cX3_addFour 26 = .ok (.i2b, 1) := of_row (r := (26, .i2b, 1)) DX3_addFour_b0 15 rfl
theorem dX3_addFour_27 : decode cX3_addFour 27 = .ok (.bastore, 1) := of_row (r := (27, .bastore, 1)) DX3_addFour_b0 16 rfl
theorem dX3_addFour_28 : decode cX3_addFour 28 = .ok (.aload_n 0, 1) := of_row (r := (28, .aload_n 0, 1)) DX3_addFour_b0 17 rfl
theorem dX3_addFour_29 : decode cX3_addFour 29 = .ok (.dup, 1) := of_row (r := (29, .dup, 1)) DX3_addFour_b0 18 rfl
theorem dX3_addFour_30 : decode cX3_addFour 30 = .ok (.getfield 15, 3) := of_row (r := (30, .getfield 15, 3)) DX3_addFour_b0 19 rfl
theorem dX3_addFour_33 : decode cX3_addFour 33 = .ok (.iconst 1, 1) := of_row (r := (33, .iconst 1, 1)) DX3_addFour_b0 20 rfl
theorem dX3_addFour_34 : decode cX3_addFour 34 = .ok (.iadd, 1) := of_row (r := (34, .iadd, 1)) DX3_addFour_b0 21 rfl
theorem dX3_addFour_35 : decode cX3_addFour 35 = .ok (.putfield 15, 3) := of_row (r := (35, .putfield 15, 3)) DX3_addFour_b0 22 rfl
theorem dX3_addFour_38 : decode cX3_addFour 38 = .ok (.iinc 2 (-8), 3) := of_row (r := (38, .iinc 2 (-8), 3)) DX3_addFour_b0 23 rfl
theorem dX3_addFour_41 : decode cX3_addFour 41 = .ok (.goto (-38), 3) := of_row (r := (41, .goto (-38), 3)) DX3_addFour_b0 24 rfl
theorem dX3_addFour_44 : decode cX3_addFour 44 = .ok (.return_, 1) := of_row (r := (44, .return_, 1)) DX3_addFour_b0 25 rfl
set_option maxRecDepth 20000 in
theorem DX3_byteAt_b0 : ([(0, .iload_n 1, 1), (1, .ifCond .lt 18, 3), (4, .iload_n 1, 1), (5, .aload_n 0, 1), (6, .getfield 15, 3), (9, .if_icmp .ge 10, 3), (12, .iload_n 1, 1), (13, .sipush 800, 3), (16, .if_icmp .lt 7, 3), (19, .iconst (-1), 1), (20, .goto 13, 3), (23, .aload_n 0, 1), (24, .getfield 9, 3), (27, .iload_n 1, 1), (28, .baload, 1), (29, .sipush 255, 3), (32, .iand, 1), (33, .ireturn, 1)] : List (Nat × Instr × Nat)).all (fun r => decide (decode cX3_byteAt r.1 = .ok r.2)) = true := by decide +kernel
theorem dX3_byteAt_0 : decode cX3_byteAt 0 = .ok (.iload_n 1, 1) := of_row (r := (0, .iload_n 1, 1)) DX3_byteAt_b0 0 rfl
theorem dX3_byteAt_1 : decode cX3_byteAt 1 = .ok (.ifCond .lt 18, 3) := of_row (r := (1, .ifCond .lt 18, 3)) DX3_byteAt_b0 1 rfl
theorem dX3_byteAt_4 : decode cX3_byteAt 4 = .ok (.iload_n 1, 1) := of_row (r := (4, .iload_n 1, 1)) DX3_byteAt_b0 2 rfl
theorem dX3_byteAt_5 : decode cX3_byteAt 5 = .ok (.aload_n 0, 1) := of_row (r := (5, .aload_n 0, 1)) DX3_byteAt_b0 3 rfl
theorem dX3_byteAt_6 : decode cX3_byteAt 6 = .ok (.getfield 15, 3) := of_row (r := (6, .getfield 15, 3)) DX3_byteAt_b0 4 rfl
theorem dX3_byteAt_9 : decode cX3_byteAt 9 = .ok (.if_icmp .ge 10, 3) := of_row (r := (9, .if_icmp .ge 10, 3)) DX3_byteAt_b0 5 rfl
theorem dX3_byteAt_12 : decode cX3_byteAt 12 = .ok (.iload_n 1, 1) := of_row (r := (12, .iload_n 1, 1)) DX3_byteAt_b0 6 rfl
theorem dX3_byteAt_13 : decode cX3_byteAt 13 = .ok (.sipush 800, 3) := of_row (r := (13, .sipush 800, 3)) DX3_byteAt_b0 7 rfl
theorem dX3_byteAt_16 : decode cX3_byteAt 16 = .ok (.if_icmp .lt 7, 3) := of_row (r := (16, .if_icmp .lt 7, 3)) DX3_byteAt_b0 8 rfl
theorem dX3_byteAt_19 : decode cX3_byteAt 19 = .ok (.iconst (-1), 1) := of_row (r := (19, .iconst (-1), 1)) DX3_byteAt_b0 9 rfl
theorem dX3_byteAt_20 : decode cX3_byteAt 20 = .ok (.goto 13, 3) := of_row (r := (20, .goto 13, 3)) DX3_byteAt_b0 10 rfl
theorem dX3_byteAt_23 : decode cX3_byteAt 23 = .ok (.aload_n 0, 1) := of_row (r := (23, .aload_n 0, 1)) DX3_byteAt_b0 11 rfl
theorem dX3_byteAt_24 : decode cX3_byteAt 24 = .ok (.getfield 9, 3) := of_row (r := (24, .getfield 9, 3)) DX3_byteAt_b0 12 rfl
theorem dX3_byteAt_27 : decode cX3_byteAt 27 = .ok (.iload_n 1, 1) := of_row (r := (27, .iload_n 1, 1)) DX3_byteAt_b0 13 rfl
theorem dX3_byteAt_28 : decode cX3_byteAt 28 = .ok (.baload, 1) := of_row (r := (28, .baload, 1)) DX3_byteAt_b0 14 rfl
theorem dX3_byteAt_29 : decode cX3_byteAt 29 = .ok (.sipush 255, 3) := of_row (r := (29, .sipush 255, 3)) DX3_byteAt_b0 15 rfl
theorem dX3_byteAt_32 : decode cX3_byteAt 32 = .ok (.iand, 1) := of_row (r := (32, .iand, 1)) DX3_byteAt_b0 16 rfl
theorem dX3_byteAt_33 : decode cX3_byteAt 33 = .ok (.ireturn, 1) := of_row (r := (33, .ireturn, 1)) DX3_byteAt_b0 17 rfl
set_option maxRecDepth 20000 in
theorem DX4_init_b0 : ([(0, .aload_n 0, 1), (1, .invokespecial 3, 3), (4, .aload_n 0, 1), (5, .aload_n 1, 1), (6, .putfield 9, 3), (9, .aload_n 0, 1), (10, .aload_n 2, 1), (11, .putfield 15, 3), (14, .aload_n 0, 1), (15, .aload_n 3, 1), (16, .putfield 18, 3), (19, .aload_n 0, 1), (20, .aload 4, 2), (22, .putfield 21, 3), (25, .return_, 1)] : List (Nat × Instr × Nat)).all (fun r => decide (decode cX4_init r.1 = .ok r.2)) = true := by decide +kernel
theorem dX4_init_0 : decode cX4_init 0 = .ok (.aload_n 0, 1) := of_row (r := (0, .aload_n 0, 1)) DX4_init_b0 0 rfl
theorem dX4_init_1 : decode cX4_init 1 = .ok (.invokespecial 3, 3) := of_row (r := (1, .invokespecial 3, 3)) DX4_init_b0 1 rfl
theorem dX4_init_4 : decode cX4_init 4 = .ok (.aload_n 0, 1) := of_row (r := (4, .aload_n 0, 1)) DX4_init_b0 2 rfl
theorem dX4_init_5 : decode cX4_init 5 = .ok (.aload_n 1, 1) := of_row (r := (5, .aload_n 1, 1)) DX4_init_b0 3 rfl
theorem dX4_init_6 : decode cX4_init 6 = .ok (.putfield 9, 3) := of_row (r := (6, .putfield 9, 3)) DX4_init_b0 4 rfl
theorem dX4_init_9 : decode cX4_init 9 = .ok (.aload_n 0, 1) := of_row (r := (9, .aload_n 0, 1)) DX4_init_b0 5 rfl
theorem dX4_init_10 : decode cX4_init 10 = .ok (.aload_n 2, 1) := of_row (r := (10, .aload_n 2, 1)) DX4_init_b0 6 rfl
theorem dX4_init_11 : decode cX4_init 11 = .ok (.putfield 15, 3) := of_row (r := (11, .putfield 15, 3)) DX4_init_b0 7 rfl
theorem dX4_init_14 : decode cX4_init 14 = .ok (.aload_n 0, 1) := of_row (r := (14, .aload_n 0, 1)) DX4_init_b0 8 rfl
theorem dX4_init_15 : decode cX4_init 15 = .ok (.aload_n 3, 1) := of_row (r := (15, .aload_n 3, 1)) DX4_init_b0 9 rfl
theorem dX4_init_16 : decode cX4_init 16 = .ok (.putfield 18, 3) := of_row (r := (16, .putfield 18, 3)) DX4_init_b0 10 rfl
theorem dX4_init_19 : decode cX4_init 19 = .ok (.aload_n 0, 1) := of_row (r := (19, .aload_n 0, 1)) DX4_init_b0 11 rfl
theorem dX4_init_20 : decode cX4_init 20 = .ok (.aload 4, 2) := of_row (r := (20, .aload 4, 2)) DX4_init_b0 12 rfl
theorem dX4_init_22 : decode cX4_init 22 = .ok (.putfield 21, 3) := of_row (r := (22, .putfield 21, 3)) DX4_init_b0 13 rfl
theorem dX4_init_25 : decode cX4_init 25 = .ok (.return_, 1) := of_row (r := (25, .return_, 1)) DX4_init_b0 14 rfl
set_option maxRecDepth 20000 in
theorem DX4_actOf_b0 : ([(0, .iload_n 1, 1), (1, .ifCond .lt 12, 3), (4, .iload_n 1, 1), (5, .aload_n 0, 1), (6, .getfield 9, 3), (9, .arraylength, 1), (10, .if_icmp .lt 7, 3), (13, .iconst 2, 1), (14, .goto 9, 3), (17, .aload_n 0, 1), (18, .getfield 9, 3), (21, .iload_n 1, 1), (22, .iaload, 1), (23, .ireturn, 1)] : List (Nat × Instr × Nat)).all (fun r => decide (decode cX4_actOf r.1 = .ok r.2)) = true := by decide +kernel
theorem dX4_actOf_0 : decode cX4_actOf 0 = .ok (.iload_n 1, 1) := of_row (r := (0, .iload_n 1, 1)) DX4_actOf_b0 0 rfl
theorem dX4_actOf_1 : decode cX4_actOf 1 = .ok (.ifCond .lt 12, 3) := of_row (r := (1, .ifCond .lt 12, 3)) DX4_actOf_b0 1 rfl
theorem dX4_actOf_4 : decode cX4_actOf 4 = .ok (.iload_n 1, 1) := of_row (r := (4, .iload_n 1, 1)) DX4_actOf_b0 2 rfl
theorem dX4_actOf_5 : decode cX4_actOf 5 = .ok (.aload_n 0, 1) := of_row (r := (5, .aload_n 0, 1)) DX4_actOf_b0 3 rfl
theorem dX4_actOf_6 : decode cX4_actOf 6 = .ok (.getfield 9, 3) := of_row (r := (6, .getfield 9, 3)) DX4_actOf_b0 4 rfl
theorem dX4_actOf_9 : decode cX4_actOf 9 = .ok (.arraylength, 1) := of_row (r := (9, .arraylength, 1)) DX4_actOf_b0 5 rfl
theorem dX4_actOf_10 : decode cX4_actOf 10 = .ok (.if_icmp .lt 7, 3) := of_row (r := (10, .if_icmp .lt 7, 3)) DX4_actOf_b0 6 rfl
theorem dX4_actOf_13 : decode cX4_actOf 13 = .ok (.iconst 2, 1) := of_row (r := (13, .iconst 2, 1)) DX4_actOf_b0 7 rfl
theorem dX4_actOf_14 : decode cX4_actOf 14 = .ok (.goto 9, 3) := of_row (r := (14, .goto 9, 3)) DX4_actOf_b0 8 rfl
theorem dX4_actOf_17 : decode cX4_actOf 17 = .ok (.aload_n 0, 1) := of_row (r := (17, .aload_n 0, 1)) DX4_actOf_b0 9 rfl
theorem dX4_actOf_18 : decode cX4_actOf 18 = .ok (.getfield 9, 3) := of_row (r := (18, .getfield 9, 3)) DX4_actOf_b0 10 rfl
theorem dX4_actOf_21 : decode cX4_actOf 21 = .ok (.iload_n 1, 1) := of_row (r := (21, .iload_n 1, 1)) DX4_actOf_b0 11 rfl
theorem dX4_actOf_22 : decode cX4_actOf 22 = .ok (.iaload, 1) := of_row (r := (22, .iaload, 1)) DX4_actOf_b0 12 rfl
theorem dX4_actOf_23 : decode cX4_actOf 23 = .ok (.ireturn, 1) := of_row (r := (23, .ireturn, 1)) DX4_actOf_b0 13 rfl
set_option maxRecDepth 20000 in
theorem DX4_shareOf_b0 : ([(0, .iload_n 1, 1), (1, .ifCond .lt 12, 3), (4, .iload_n 1, 1), (5, .aload_n 0, 1), (6, .getfield 15, 3), (9, .arraylength, 1), (10, .if_icmp .lt 7, 3), (13, .iconst 0, 1), (14, .goto 9, 3), (17, .aload_n 0, 1), (18, .getfield 15, 3), (21, .iload_n 1, 1), (22, .iaload, 1), (23, .ireturn, 1)] : List (Nat × Instr × Nat)).all (fun r => decide (decode cX4_shareOf r.1 = .ok r.2)) = true := by decide +kernel
theorem dX4_shareOf_0 : decode cX4_shareOf 0 = .ok (.iload_n 1, 1) := of_row (r := (0, .iload_n 1, 1)) DX4_shareOf_b0 0 rfl
theorem dX4_shareOf_1 : decode cX4_shareOf 1 = .ok (.ifCond .lt 12, 3) := of_row (r := (1, .ifCond .lt 12, 3)) DX4_shareOf_b0 1 rfl
theorem dX4_shareOf_4 : decode cX4_shareOf 4 = .ok (.iload_n 1, 1) := of_row (r := (4, .iload_n 1, 1)) DX4_shareOf_b0 2 rfl
theorem dX4_shareOf_5 : decode cX4_shareOf 5 = .ok (.aload_n 0, 1) := of_row (r := (5, .aload_n 0, 1)) DX4_shareOf_b0 3 rfl
theorem dX4_shareOf_6 : decode cX4_shareOf 6 = .ok (.getfield 15, 3) := of_row (r := (6, .getfield 15, 3)) DX4_shareOf_b0 4 rfl
theorem dX4_shareOf_9 : decode cX4_shareOf 9 = .ok (.arraylength, 1) := of_row (r := (9, .arraylength, 1)) DX4_shareOf_b0 5 rfl
theorem dX4_shareOf_10 : decode cX4_shareOf 10 = .ok (.if_icmp .lt 7, 3) := of_row (r := (10, .if_icmp .lt 7, 3)) DX4_shareOf_b0 6 rfl
theorem dX4_shareOf_13 : decode cX4_shareOf 13 = .ok (.iconst 0, 1) := of_row (r := (13, .iconst 0, 1)) DX4_shareOf_b0 7 rfl
theorem dX4_shareOf_14 : decode cX4_shareOf 14 = .ok (.goto 9, 3) := of_row (r := (14, .goto 9, 3)) DX4_shareOf_b0 8 rfl
theorem dX4_shareOf_17 : decode cX4_shareOf 17 = .ok (.aload_n 0, 1) := of_row (r := (17, .aload_n 0, 1)) DX4_shareOf_b0 9 rfl
theorem dX4_shareOf_18 : decode cX4_shareOf 18 = .ok (.getfield 15, 3) := of_row (r := (18, .getfield 15, 3)) DX4_shareOf_b0 10 rfl
theorem dX4_shareOf_21 : decode cX4_shareOf 21 = .ok (.iload_n 1, 1) := of_row (r := (21, .iload_n 1, 1)) DX4_shareOf_b0 11 rfl
theorem dX4_shareOf_22 : decode cX4_shareOf 22 = .ok (.iaload, 1) := of_row (r := (22, .iaload, 1)) DX4_shareOf_b0 12 rfl
theorem dX4_shareOf_23 : decode cX4_shareOf 23 = .ok (.ireturn, 1) := of_row (r := (23, .ireturn, 1)) DX4_shareOf_b0 13 rfl
set_option maxRecDepth 20000 in
theorem DX4_startOf_b0 : ([(0, .iload_n 1, 1), (1, .ifCond .lt 12, 3), (4, .iload_n 1, 1), (5, .aload_n 0, 1), (6, .getfield 18, 3), (9, .arraylength, 1), (10, .if_icmp .lt 11, 3), (13, .aload_n 0, 1), (14, .getfield 21, 3), (17, .arraylength, 1), (18, .goto 9, 3), (21, .aload_n 0, 1), (22, .getfield 18, 3), (25, .iload_n 1, 1), (26, .iaload, 1), (27, .ireturn, 1)] : List (Nat × Instr × Nat)).all (fun r => decide (decode cX4_startOf r.1 = .ok r.2)) = true := by decide +kernel
theorem dX4_startOf_0 : decode cX4_startOf 0 = .ok (.iload_n 1, 1) := of_row (r := (0, .iload_n 1, 1)) DX4_startOf_b0 0 rfl
theorem dX4_startOf_1 : decode cX4_startOf 1 = .ok (.ifCond .lt 12, 3) := of_row (r := (1, .ifCond .lt 12, 3)) DX4_startOf_b0 1 rfl
theorem dX4_startOf_4 : decode cX4_startOf 4 = .ok (.iload_n 1, 1) := of_row (r := (4, .iload_n 1, 1)) DX4_startOf_b0 2 rfl
theorem dX4_startOf_5 : decode cX4_startOf 5 = .ok (.aload_n 0, 1) := of_row (r := (5, .aload_n 0, 1)) DX4_startOf_b0 3 rfl
theorem dX4_startOf_6 : decode cX4_startOf 6 = .ok (.getfield 18, 3) := of_row (r := (6, .getfield 18, 3)) DX4_startOf_b0 4 rfl
theorem dX4_startOf_9 : decode cX4_startOf 9 = .ok (.arraylength, 1) := of_row (r := (9, .arraylength, 1)) DX4_startOf_b0 5 rfl
theorem dX4_startOf_10 : decode cX4_startOf 10 = .ok (.if_icmp .lt 11, 3) := of_row (r := (10, .if_icmp .lt 11, 3)) DX4_startOf_b0 6 rfl
theorem dX4_startOf_13 : decode cX4_startOf 13 = .ok (.aload_n 0, 1) := of_row (r := (13, .aload_n 0, 1)) DX4_startOf_b0 7 rfl
theorem dX4_startOf_14 : decode cX4_startOf 14 = .ok (.getfield 21, 3) := of_row (r := (14, .getfield 21, 3)) DX4_startOf_b0 8 rfl
theorem dX4_startOf_17 : decode cX4_startOf 17 = .ok (.arraylength, 1) := of_row (r := (17, .arraylength, 1)) DX4_startOf_b0 9 rfl
theorem dX4_startOf_18 : decode cX4_startOf 18 = .ok (.goto 9, 3) := of_row (r := (18, .goto 9, 3)) DX4_startOf_b0 10 rfl
theorem dX4_startOf_21 : decode cX4_startOf 21 = .ok (.aload_n 0, 1) := of_row (r := (21, .aload_n 0, 1)) DX4_startOf_b0 11 rfl
theorem dX4_startOf_22 : decode cX4_startOf 22 = .ok (.getfield 18, 3) := of_row (r := (22, .getfield 18, 3)) DX4_startOf_b0 12 rfl
theorem dX4_startOf_25 : decode cX4_startOf 25 = .ok (.iload_n 1, 1) := of_row (r := (25, .iload_n 1, 1)) DX4_startOf_b0 13 rfl
theorem dX4_startOf_26 : decode cX4_startOf 26 = .ok (.iaload, 1) := of_row (r := (26, .iaload, 1)) DX4_startOf_b0 14 rfl
theorem dX4_startOf_27 : decode cX4_startOf 27 = .ok (.ireturn, 1) := of_row (r := (27, .ireturn, 1)) DX4_startOf_b0 15 rfl
set_option maxRecDepth 20000 in
theorem DX4_codeAt_b0 : ([(0, .iload_n 1, 1), (1, .ifCond .lt 12, 3), (4, .iload_n 1, 1), (5, .aload_n 0, 1), (6, .getfield 21, 3), (9, .arraylength, 1), (10, .if_icmp .lt 7, 3), (13, .iconst 0, 1), (14, .goto 9, 3), (17, .aload_n 0, 1), (18, .getfield 21, 3), (21, .iload_n 1, 1), (22, .iaload, 1), (23, .ireturn, 1)] : List (Nat × Instr × Nat)).all (fun r => decide (decode cX4_codeAt r.1 = .ok r.2)) = true := by decide +kernel
theorem dX4_codeAt_0 : decode cX4_codeAt 0 = .ok (.iload_n 1, 1) := of_row (r := (0, .iload_n 1, 1)) DX4_codeAt_b0 0 rfl
theorem dX4_codeAt_1 : decode cX4_codeAt 1 = .ok (.ifCond .lt 12, 3) := of_row (r := (1, .ifCond .lt 12, 3)) DX4_codeAt_b0 1 rfl
theorem dX4_codeAt_4 : decode cX4_codeAt 4 = .ok (.iload_n 1, 1) := of_row (r := (4, .iload_n 1, 1)) DX4_codeAt_b0 2 rfl
theorem dX4_codeAt_5 : decode cX4_codeAt 5 = .ok (.aload_n 0, 1) := of_row (r := (5, .aload_n 0, 1)) DX4_codeAt_b0 3 rfl
theorem dX4_codeAt_6 : decode cX4_codeAt 6 = .ok (.getfield 21, 3) := of_row (r := (6, .getfield 21, 3)) DX4_codeAt_b0 4 rfl
theorem dX4_codeAt_9 : decode cX4_codeAt 9 = .ok (.arraylength, 1) := of_row (r := (9, .arraylength, 1)) DX4_codeAt_b0 5 rfl
theorem dX4_codeAt_10 : decode cX4_codeAt 10 = .ok (.if_icmp .lt 7, 3) := of_row (r := (10, .if_icmp .lt 7, 3)) DX4_codeAt_b0 6 rfl
theorem dX4_codeAt_13 : decode cX4_codeAt 13 = .ok (.iconst 0, 1) := of_row (r := (13, .iconst 0, 1)) DX4_codeAt_b0 7 rfl
theorem dX4_codeAt_14 : decode cX4_codeAt 14 = .ok (.goto 9, 3) := of_row (r := (14, .goto 9, 3)) DX4_codeAt_b0 8 rfl
theorem dX4_codeAt_17 : decode cX4_codeAt 17 = .ok (.aload_n 0, 1) := of_row (r := (17, .aload_n 0, 1)) DX4_codeAt_b0 9 rfl
theorem dX4_codeAt_18 : decode cX4_codeAt 18 = .ok (.getfield 21, 3) := of_row (r := (18, .getfield 21, 3)) DX4_codeAt_b0 10 rfl
theorem dX4_codeAt_21 : decode cX4_codeAt 21 = .ok (.iload_n 1, 1) := of_row (r := (21, .iload_n 1, 1)) DX4_codeAt_b0 11 rfl
theorem dX4_codeAt_22 : decode cX4_codeAt 22 = .ok (.iaload, 1) := of_row (r := (22, .iaload, 1)) DX4_codeAt_b0 12 rfl
theorem dX4_codeAt_23 : decode cX4_codeAt 23 = .ok (.ireturn, 1) := of_row (r := (23, .ireturn, 1)) DX4_codeAt_b0 13 rfl
set_option maxRecDepth 20000 in
theorem DX5_init_b0 : ([(0, .aload_n 0, 1), (1, .invokespecial 3, 3), (4, .aload_n 0, 1), (5, .bipush 10, 2), (7, .newarray .long, 2), (9, .putfield 9, 3), (12, .aload_n 0, 1), (13, .bipush 64, 2), (15, .newarray .long, 2), (17, .putfield 15, 3), (20, .return_, 1)] : List (Nat × Instr × Nat)).all (fun r => decide (decode cX5_init r.1 = .ok r.2)) = true := by decide +kernel
theorem dX5_init_0 : decode cX5_init 0 = .ok (.aload_n 0, 1) := of_row (r := (0, .aload_n 0, 1)) DX5_init_b0 0 rfl
theorem dX5_init_1 : decode cX5_init 1 = .ok (.invokespecial 3, 3) := of_row (r := (1, .invokespecial 3, 3)) DX5_init_b0 1 rfl
theorem dX5_init_4 : decode cX5_init 4 = .ok (.aload_n 0, 1) := of_row (r := (4, .aload_n 0, 1)) DX5_init_b0 2 rfl
theorem dX5_init_5 : decode cX5_init 5 = .ok (.bipush 10, 2) := of_row (r := (5, .bipush 10, 2)) DX5_init_b0 3 rfl
theorem dX5_init_7 : decode cX5_init 7 = .ok (.newarray .long, 2) := of_row (r := (7, .newarray .long, 2)) DX5_init_b0 4 rfl
theorem dX5_init_9 : decode cX5_init 9 = .ok (.putfield 9, 3) := of_row (r := (9, .putfield 9, 3)) DX5_init_b0 5 rfl
theorem dX5_init_12 : decode cX5_init 12 = .ok (.aload_n 0, 1) := of_row (r := (12, .aload_n 0, 1)) DX5_init_b0 6 rfl
theorem dX5_init_13 : decode cX5_init 13 = .ok (.bipush 64, 2) := of_row (r := (13, .bipush 64, 2)) DX5_init_b0 7 rfl
theorem dX5_init_15 : decode cX5_init 15 = .ok (.newarray .long, 2) := of_row (r := (15, .newarray .long, 2)) DX5_init_b0 8 rfl
theorem dX5_init_17 : decode cX5_init 17 = .ok (.putfield 15, 3) := of_row (r := (17, .putfield 15, 3)) DX5_init_b0 9 rfl
theorem dX5_init_20 : decode cX5_init 20 = .ok (.return_, 1) := of_row (r := (20, .return_, 1)) DX5_init_b0 10 rfl
set_option maxRecDepth 20000 in
theorem DX5_tell_b0 : ([(0, .iload_n 1, 1), (1, .bipush 11, 2), (3, .if_icmp .lt 19, 3), (6, .iload_n 1, 1), (7, .bipush 20, 2), (9, .if_icmp .gt 13, 3), (12, .aload_n 0, 1), (13, .getfield 9, 3), (16, .iload_n 1, 1), (17, .bipush 11, 2), (19, .isub, 1), (20, .lload_n 2, 1), (21, .lastore, 1), (22, .return_, 1)] : List (Nat × Instr × Nat)).all (fun r => decide (decode cX5_tell r.1 = .ok r.2)) = true := by decide +kernel
theorem dX5_tell_0 : decode cX5_tell 0 = .ok (.iload_n 1, 1) := of_row (r := (0, .iload_n 1, 1)) DX5_tell_b0 0 rfl
theorem dX5_tell_1 : decode cX5_tell 1 = .ok (.bipush 11, 2) := of_row (r := (1, .bipush 11, 2)) DX5_tell_b0 1 rfl
theorem dX5_tell_3 : decode cX5_tell 3 = .ok (.if_icmp .lt 19, 3) := of_row (r := (3, .if_icmp .lt 19, 3)) DX5_tell_b0 2 rfl
theorem dX5_tell_6 : decode cX5_tell 6 = .ok (.iload_n 1, 1) := of_row (r := (6, .iload_n 1, 1)) DX5_tell_b0 3 rfl
theorem dX5_tell_7 : decode cX5_tell 7 = .ok (.bipush 20, 2) := of_row (r := (7, .bipush 20, 2)) DX5_tell_b0 4 rfl
theorem dX5_tell_9 : decode cX5_tell 9 = .ok (.if_icmp .gt 13, 3) := of_row (r := (9, .if_icmp .gt 13, 3)) DX5_tell_b0 5 rfl
theorem dX5_tell_12 : decode cX5_tell 12 = .ok (.aload_n 0, 1) := of_row (r := (12, .aload_n 0, 1)) DX5_tell_b0 6 rfl
theorem dX5_tell_13 : decode cX5_tell 13 = .ok (.getfield 9, 3) := of_row (r := (13, .getfield 9, 3)) DX5_tell_b0 7 rfl
theorem dX5_tell_16 : decode cX5_tell 16 = .ok (.iload_n 1, 1) := of_row (r := (16, .iload_n 1, 1)) DX5_tell_b0 8 rfl
theorem dX5_tell_17 : decode cX5_tell 17 = .ok (.bipush 11, 2) := of_row (r := (17, .bipush 11, 2)) DX5_tell_b0 9 rfl
theorem dX5_tell_19 : decode cX5_tell 19 = .ok (.isub, 1) := of_row (r := (19, .isub, 1)) DX5_tell_b0 10 rfl
theorem dX5_tell_20 : decode cX5_tell 20 = .ok (.lload_n 2, 1) := of_row (r := (20, .lload_n 2, 1)) DX5_tell_b0 11 rfl
theorem dX5_tell_21 : decode cX5_tell 21 = .ok (.lastore, 1) := of_row (r := (21, .lastore, 1)) DX5_tell_b0 12 rfl
theorem dX5_tell_22 : decode cX5_tell 22 = .ok (.return_, 1) := of_row (r := (22, .return_, 1)) DX5_tell_b0 13 rfl
set_option maxRecDepth 20000 in
theorem DX5_firstHeld_b0 : ([(0, .iconst 0, 1), (1, .istore_n 2, 1), (2, .iload_n 2, 1), (3, .aload_n 1, 1), (4, .getfield 18, 3), (7, .arraylength, 1), (8, .if_icmp .ge 20, 3), (11, .aload_n 0, 1), (12, .aload_n 1, 1), (13, .iload_n 2, 1), (14, .invokevirtual 24, 3), (17, .ifCond .eq 5, 3), (20, .iload_n 2, 1), (21, .ireturn, 1), (22, .iinc 2 1, 3), (25, .goto (-23), 3), (28, .iconst (-1), 1), (29, .ireturn, 1)] : List (Nat × Instr × Nat)).all (fun r => decide (decode cX5_firstHeld r.1 = .ok r.2)) = true := by decide +kernel
theorem dX5_firstHeld_0 : decode cX5_firstHeld 0 = .ok (.iconst 0, 1) := of_row (r := (0, .iconst 0, 1)) DX5_firstHeld_b0 0 rfl
theorem dX5_firstHeld_1 : decode cX5_firstHeld 1 = .ok (.istore_n 2, 1) := of_row (r := (1, .istore_n 2, 1)) DX5_firstHeld_b0 1 rfl
theorem dX5_firstHeld_2 : decode cX5_firstHeld 2 = .ok (.iload_n 2, 1) := of_row (r := (2, .iload_n 2, 1)) DX5_firstHeld_b0 2 rfl
theorem dX5_firstHeld_3 : decode cX5_firstHeld 3 = .ok (.aload_n 1, 1) := of_row (r := (3, .aload_n 1, 1)) DX5_firstHeld_b0 3 rfl
theorem dX5_firstHeld_4 : decode cX5_firstHeld 4 = .ok (.getfield 18, 3) := of_row (r := (4, .getfield 18, 3)) DX5_firstHeld_b0 4 rfl
theorem dX5_firstHeld_7 : decode cX5_firstHeld 7 = .ok (.arraylength, 1) := of_row (r := (7, .arraylength, 1)) DX5_firstHeld_b0 5 rfl
theorem dX5_firstHeld_8 : decode cX5_firstHeld 8 = .ok (.if_icmp .ge 20, 3) := of_row (r := (8, .if_icmp .ge 20, 3)) DX5_firstHeld_b0 6 rfl
theorem dX5_firstHeld_11 : decode cX5_firstHeld 11 = .ok (.aload_n 0, 1) := of_row (r := (11, .aload_n 0, 1)) DX5_firstHeld_b0 7 rfl
theorem dX5_firstHeld_12 : decode cX5_firstHeld 12 = .ok (.aload_n 1, 1) := of_row (r := (12, .aload_n 1, 1)) DX5_firstHeld_b0 8 rfl
theorem dX5_firstHeld_13 : decode cX5_firstHeld 13 = .ok (.iload_n 2, 1) := of_row (r := (13, .iload_n 2, 1)) DX5_firstHeld_b0 9 rfl
theorem dX5_firstHeld_14 : decode cX5_firstHeld 14 = .ok (.invokevirtual 24, 3) := of_row (r := (14, .invokevirtual 24, 3)) DX5_firstHeld_b0 10 rfl
theorem dX5_firstHeld_17 : decode cX5_firstHeld 17 = .ok (.ifCond .eq 5, 3) := of_row (r := (17, .ifCond .eq 5, 3)) DX5_firstHeld_b0 11 rfl
theorem dX5_firstHeld_20 : decode cX5_firstHeld 20 = .ok (.iload_n 2, 1) := of_row (r := (20, .iload_n 2, 1)) DX5_firstHeld_b0 12 rfl
theorem dX5_firstHeld_21 : decode cX5_firstHeld 21 = .ok (.ireturn, 1) := of_row (r := (21, .ireturn, 1)) DX5_firstHeld_b0 13 rfl
theorem dX5_firstHeld_22 : decode cX5_firstHeld 22 = .ok (.iinc 2 1, 3) := of_row (r := (22, .iinc 2 1, 3)) DX5_firstHeld_b0 14 rfl
theorem dX5_firstHeld_25 : decode cX5_firstHeld 25 = .ok (.goto (-23), 3) := of_row (r := (25, .goto (-23), 3)) DX5_firstHeld_b0 15 rfl
theorem dX5_firstHeld_28 : decode cX5_firstHeld 28 = .ok (.iconst (-1), 1) := of_row (r := (28, .iconst (-1), 1)) DX5_firstHeld_b0 16 rfl
theorem dX5_firstHeld_29 : decode cX5_firstHeld 29 = .ok (.ireturn, 1) := of_row (r := (29, .ireturn, 1)) DX5_firstHeld_b0 17 rfl
set_option maxRecDepth 20000 in
theorem DX5_holds_b0 : ([(0, .aload_n 1, 1), (1, .iload_n 2, 1), (2, .invokevirtual 28, 3), (5, .istore_n 3, 1), (6, .aload_n 1, 1), (7, .iload_n 2, 1), (8, .iconst 1, 1), (9, .iadd, 1), (10, .invokevirtual 28, 3), (13, .istore 4, 2), (15, .aload_n 0, 1), (16, .iconst 0, 1), (17, .putfield 32, 3), (20, .iload_n 3, 1), (21, .istore 5, 2), (23, .iload 5, 2), (25, .iload 4, 2), (27, .if_icmp .ge 19, 3), (30, .aload_n 0, 1), (31, .aload_n 1, 1), (32, .iload 5, 2), (34, .invokevirtual 36, 3), (37, .invokevirtual 39, 3), (40, .iinc 5 1, 3), (43, .goto (-20), 3), (46, .iload_n 3, 1), (47, .iload 4, 2), (49, .if_icmp .ge 12, 3), (52, .aload_n 0, 1), (53, .invokevirtual 43, 3), (56, .lconst 0, 1), (57, .lcmp, 1), (58, .ifCond .eq 7, 3), (61, .iconst 1, 1), (62, .goto 4, 3), (65, .iconst 0, 1), (66, .ireturn, 1)] : List (Nat × Instr × Nat)).all (fun r => decide (decode cX5_holds r.1 = .ok r.2)) = true := by decide +kernel
theorem dX5_holds_0 : decode cX5_holds 0 = .ok (.aload_n 1, 1) := of_row (r := (0, .aload_n 1, 1)) DX5_holds_b0 0 rfl
theorem dX5_holds_1 : decode cX5_holds 1 = .ok (.iload_n 2, 1) := of_row (r := (1, .iload_n 2, 1)) DX5_holds_b0 1 rfl
theorem dX5_holds_2 : decode cX5_holds 2 = .ok (.invokevirtual 28, 3) := of_row (r := (2, .invokevirtual 28, 3)) DX5_holds_b0 2 rfl
theorem dX5_holds_5 : decode cX5_holds 5 = .ok (.istore_n 3, 1) := of_row (r := (5, .istore_n 3, 1)) DX5_holds_b0 3 rfl
theorem dX5_holds_6 : decode cX5_holds 6 = .ok (.aload_n 1, 1) := of_row (r := (6, .aload_n 1, 1)) DX5_holds_b0 4 rfl
theorem dX5_holds_7 : decode cX5_holds 7 = .ok (.iload_n 2, 1) := of_row (r := (7, .iload_n 2, 1)) DX5_holds_b0 5 rfl
theorem dX5_holds_8 : decode cX5_holds 8 = .ok (.iconst 1, 1) := of_row (r := (8, .iconst 1, 1)) DX5_holds_b0 6 rfl
theorem dX5_holds_9 : decode cX5_holds 9 = .ok (.iadd, 1) := of_row (r := (9, .iadd, 1)) DX5_holds_b0 7 rfl
theorem dX5_holds_10 : decode cX5_holds 10 = .ok (.invokevirtual 28, 3) := of_row (r := (10, .invokevirtual 28, 3)) DX5_holds_b0 8 rfl
theorem dX5_holds_13 : decode cX5_holds 13 = .ok (.istore 4, 2) := of_row (r := (13, .istore 4, 2)) DX5_holds_b0 9 rfl
theorem dX5_holds_15 : decode cX5_holds 15 = .ok (.aload_n 0, 1) := of_row (r := (15, .aload_n 0, 1)) DX5_holds_b0 10 rfl
theorem dX5_holds_16 : decode cX5_holds 16 = .ok (.iconst 0, 1) := of_row (r := (16, .iconst 0, 1)) DX5_holds_b0 11 rfl
theorem dX5_holds_17 : decode cX5_holds 17 = .ok (.putfield 32, 3) := of_row (r := (17, .putfield 32, 3)) DX5_holds_b0 12 rfl
theorem dX5_holds_20 : decode cX5_holds 20 = .ok (.iload_n 3, 1) := of_row (r := (20, .iload_n 3, 1)) DX5_holds_b0 13 rfl
theorem dX5_holds_21 : decode cX5_holds 21 = .ok (.istore 5, 2) := of_row (r := (21, .istore 5, 2)) DX5_holds_b0 14 rfl
theorem dX5_holds_23 : decode cX5_holds 23 = .ok (.iload 5, 2) := of_row (r := (23, .iload 5, 2)) DX5_holds_b0 15 rfl
theorem dX5_holds_25 : decode cX5_holds 25 = .ok (.iload 4, 2) := of_row (r := (25, .iload 4, 2)) DX5_holds_b0 16 rfl
theorem dX5_holds_27 : decode cX5_holds 27 = .ok (.if_icmp .ge 19, 3) := of_row (r := (27, .if_icmp .ge 19, 3)) DX5_holds_b0 17 rfl
theorem dX5_holds_30 : decode cX5_holds 30 = .ok (.aload_n 0, 1) := of_row (r := (30, .aload_n 0, 1)) DX5_holds_b0 18 rfl
theorem dX5_holds_31 : decode cX5_holds 31 = .ok (.aload_n 1, 1) := of_row (r := (31, .aload_n 1, 1)) DX5_holds_b0 19 rfl
theorem dX5_holds_32 : decode cX5_holds 32 = .ok (.iload 5, 2) := of_row (r := (32, .iload 5, 2)) DX5_holds_b0 20 rfl
theorem dX5_holds_34 : decode cX5_holds 34 = .ok (.invokevirtual 36, 3) := of_row (r := (34, .invokevirtual 36, 3)) DX5_holds_b0 21 rfl
theorem dX5_holds_37 : decode cX5_holds 37 = .ok (.invokevirtual 39, 3) := of_row (r := (37, .invokevirtual 39, 3)) DX5_holds_b0 22 rfl
theorem dX5_holds_40 : decode cX5_holds 40 = .ok (.iinc 5 1, 3) := of_row (r := (40, .iinc 5 1, 3)) DX5_holds_b0 23 rfl
theorem dX5_holds_43 : decode cX5_holds 43 = .ok (.goto (-20), 3) := of_row (r := (43, .goto (-20), 3)) DX5_holds_b0 24 rfl
theorem dX5_holds_46 : decode cX5_holds 46 = .ok (.iload_n 3, 1) := of_row (r := (46, .iload_n 3, 1)) DX5_holds_b0 25 rfl
theorem dX5_holds_47 : decode cX5_holds 47 = .ok (.iload 4, 2) := of_row (r := (47, .iload 4, 2)) DX5_holds_b0 26 rfl
theorem dX5_holds_49 : decode cX5_holds 49 = .ok (.if_icmp .ge 12, 3) := of_row (r := (49, .if_icmp .ge 12, 3)) DX5_holds_b0 27 rfl
theorem dX5_holds_52 : decode cX5_holds 52 = .ok (.aload_n 0, 1) := of_row (r := (52, .aload_n 0, 1)) DX5_holds_b0 28 rfl
theorem dX5_holds_53 : decode cX5_holds 53 = .ok (.invokevirtual 43, 3) := of_row (r := (53, .invokevirtual 43, 3)) DX5_holds_b0 29 rfl
theorem dX5_holds_56 : decode cX5_holds 56 = .ok (.lconst 0, 1) := of_row (r := (56, .lconst 0, 1)) DX5_holds_b0 30 rfl
theorem dX5_holds_57 : decode cX5_holds 57 = .ok (.lcmp, 1) := of_row (r := (57, .lcmp, 1)) DX5_holds_b0 31 rfl
theorem dX5_holds_58 : decode cX5_holds 58 = .ok (.ifCond .eq 7, 3) := of_row (r := (58, .ifCond .eq 7, 3)) DX5_holds_b0 32 rfl
theorem dX5_holds_61 : decode cX5_holds 61 = .ok (.iconst 1, 1) := of_row (r := (61, .iconst 1, 1)) DX5_holds_b0 33 rfl
theorem dX5_holds_62 : decode cX5_holds 62 = .ok (.goto 4, 3) := of_row (r := (62, .goto 4, 3)) DX5_holds_b0 34 rfl
theorem dX5_holds_65 : decode cX5_holds 65 = .ok (.iconst 0, 1) := of_row (r := (65, .iconst 0, 1)) DX5_holds_b0 35 rfl
theorem dX5_holds_66 : decode cX5_holds 66 = .ok (.ireturn, 1) := of_row (r := (66, .ireturn, 1)) DX5_holds_b0 36 rfl
set_option maxRecDepth 20000 in
theorem DX5_doStep_b0 : ([(0, .iload_n 1, 1), (1, .ineg, 1), (2, .istore_n 2, 1), (3, .iload_n 1, 1), (4, .ifCond .lt 12, 3), (7, .aload_n 0, 1), (8, .iload_n 1, 1), (9, .i2l, 1), (10, .invokevirtual 47, 3), (13, .goto 80, 3), (16, .iload_n 2, 1), (17, .bipush 11, 2), (19, .if_icmp .lt 25, 3), (22, .iload_n 2, 1), (23, .bipush 20, 2), (25, .if_icmp .gt 19, 3), (28, .aload_n 0, 1), (29, .aload_n 0, 1), (30, .getfield 9, 3), (33, .iload_n 2, 1), (34, .bipush 11, 2), (36, .isub, 1), (37, .laload, 1), (38, .invokevirtual 47, 3), (41, .goto 52, 3), (44, .iload_n 2, 1), (45, .bipush 10, 2), (47, .if_icmp .ne 24, 3), (50, .aload_n 0, 1), (51, .aload_n 0, 1), (52, .invokevirtual 43, 3), (55, .lconst 0, 1), (56, .lcmp, 1), (57, .ifCond .ne 7, 3), (60, .lconst 1, 1), (61, .goto 4, 3), (64, .lconst 0, 1), (65, .invokevirtual 47, 3), (68, .goto 25, 3), (71, .aload_n 0, 1), (72, .invokevirtual 43, 3), (75, .lstore_n 3, 1), (76, .aload_n 0, 1), (77, .invokevirtual 43, 3), (80, .lstore 5, 2), (82, .aload_n 0, 1), (83, .iload_n 2, 1), (84, .lload 5, 2), (86, .lload_n 3, 1), (87, .invokestatic 51, 3), (90, .invokevirtual 47, 3), (93, .return_, 1)] : List (Nat × Instr × Nat)).all (fun r => decide (decode cX5_doStep r.1 = .ok r.2)) = true := by decide +kernel
theorem dX5_doStep_0 : decode cX5_doStep 0 = .ok (.iload_n 1, 1) := of_row (r := (0, .iload_n 1, 1)) DX5_doStep_b0 0 rfl
theorem dX5_doStep_1 : decode cX5_doStep 1 = .ok (.ineg, 1) := of_row (r := (1, .ineg, 1)) DX5_doStep_b0 1 rfl
theorem dX5_doStep_2 : decode cX5_doStep 2 = .ok (.istore_n 2, 1) := of_row (r := (2, .istore_n 2, 1)) DX5_doStep_b0 2 rfl
theorem dX5_doStep_3 : decode cX5_doStep 3 = .ok (.iload_n 1, 1) := of_row (r := (3, .iload_n 1, 1)) DX5_doStep_b0 3 rfl
theorem dX5_doStep_4 : decode cX5_doStep 4 = .ok (.ifCond .lt 12, 3) := of_row (r := (4, .ifCond .lt 12, 3)) DX5_doStep_b0 4 rfl
theorem dX5_doStep_7 : decode cX5_doStep 7 = .ok (.aload_n 0, 1) := of_row (r := (7, .aload_n 0, 1)) DX5_doStep_b0 5 rfl
theorem dX5_doStep_8 : decode cX5_doStep 8 = .ok (.iload_n 1, 1) := of_row (r := (8, .iload_n 1, 1)) DX5_doStep_b0 6 rfl
theorem dX5_doStep_9 : decode cX5_doStep 9 = .ok (.i2l, 1) := of_row (r := (9, .i2l, 1)) DX5_doStep_b0 7 rfl
theorem dX5_doStep_10 : decode cX5_doStep 10 = .ok (.invokevirtual 47, 3) := of_row (r := (10, .invokevirtual 47, 3)) DX5_doStep_b0 8 rfl
theorem dX5_doStep_13 : decode cX5_doStep 13 = .ok (.goto 80, 3) := of_row (r := (13, .goto 80, 3)) DX5_doStep_b0 9 rfl
theorem dX5_doStep_16 : decode cX5_doStep 16 = .ok (.iload_n 2, 1) := of_row (r := (16, .iload_n 2, 1)) DX5_doStep_b0 10 rfl
theorem dX5_doStep_17 : decode cX5_doStep 17 = .ok (.bipush 11, 2) := of_row (r := (17, .bipush 11, 2)) DX5_doStep_b0 11 rfl
theorem dX5_doStep_19 : decode cX5_doStep 19 = .ok (.if_icmp .lt 25, 3) := of_row (r := (19, .if_icmp .lt 25, 3)) DX5_doStep_b0 12 rfl
theorem dX5_doStep_22 : decode cX5_doStep 22 = .ok (.iload_n 2, 1) := of_row (r := (22, .iload_n 2, 1)) DX5_doStep_b0 13 rfl
theorem dX5_doStep_23 : decode cX5_doStep 23 = .ok (.bipush 20, 2) := of_row (r := (23, .bipush 20, 2)) DX5_doStep_b0 14 rfl
theorem dX5_doStep_25 : decode cX5_doStep 25 = .ok (.if_icmp .gt 19, 3) := of_row (r := (25, .if_icmp .gt 19, 3)) DX5_doStep_b0 15 rfl
theorem dX5_doStep_28 : decode cX5_doStep 28 = .ok (.aload_n 0, 1) := of_row (r := (28, .aload_n 0, 1)) DX5_doStep_b0 16 rfl
theorem dX5_doStep_29 : decode cX5_doStep 29 = .ok (.aload_n 0, 1) := of_row (r := (29, .aload_n 0, 1)) DX5_doStep_b0 17 rfl
theorem dX5_doStep_30 : decode cX5_doStep 30 = .ok (.getfield 9, 3) := of_row (r := (30, .getfield 9, 3)) DX5_doStep_b0 18 rfl
theorem dX5_doStep_33 : decode cX5_doStep 33 = .ok (.iload_n 2, 1) := of_row (r := (33, .iload_n 2, 1)) DX5_doStep_b0 19 rfl
theorem dX5_doStep_34 : decode cX5_doStep 34 = .ok (.bipush 11, 2) := of_row (r := (34, .bipush 11, 2)) DX5_doStep_b0 20 rfl
theorem dX5_doStep_36 : decode cX5_doStep 36 = .ok (.isub, 1) := of_row (r := (36, .isub, 1)) DX5_doStep_b0 21 rfl
theorem dX5_doStep_37 : decode cX5_doStep 37 = .ok (.laload, 1) := of_row (r := (37, .laload, 1)) DX5_doStep_b0 22 rfl
theorem dX5_doStep_38 : decode cX5_doStep 38 = .ok (.invokevirtual 47, 3) := of_row (r := (38, .invokevirtual 47, 3)) DX5_doStep_b0 23 rfl
theorem dX5_doStep_41 : decode cX5_doStep 41 = .ok (.goto 52, 3) := of_row (r := (41, .goto 52, 3)) DX5_doStep_b0 24 rfl
theorem dX5_doStep_44 : decode cX5_doStep 44 = .ok (.iload_n 2, 1) := of_row (r := (44, .iload_n 2, 1)) DX5_doStep_b0 25 rfl
theorem dX5_doStep_45 : decode cX5_doStep 45 = .ok (.bipush 10, 2) := of_row (r := (45, .bipush 10, 2)) DX5_doStep_b0 26 rfl
theorem dX5_doStep_47 : decode cX5_doStep 47 = .ok (.if_icmp .ne 24, 3) := of_row (r := (47, .if_icmp .ne 24, 3)) DX5_doStep_b0 27 rfl
theorem dX5_doStep_50 : decode cX5_doStep 50 = .ok (.aload_n 0, 1) := of_row (r := (50, .aload_n 0, 1)) DX5_doStep_b0 28 rfl
theorem dX5_doStep_51 : decode cX5_doStep 51 = .ok (.aload_n 0, 1) := of_row (r := (51, .aload_n 0, 1)) DX5_doStep_b0 29 rfl
theorem dX5_doStep_52 : decode cX5_doStep 52 = .ok (.invokevirtual 43, 3) := of_row (r := (52, .invokevirtual 43, 3)) DX5_doStep_b0 30 rfl
theorem dX5_doStep_55 : decode cX5_doStep 55 = .ok (.lconst 0, 1) := of_row (r := (55, .lconst 0, 1)) DX5_doStep_b0 31 rfl
theorem dX5_doStep_56 : decode cX5_doStep 56 = .ok (.lcmp, 1) := of_row (r := (56, .lcmp, 1)) DX5_doStep_b0 32 rfl
theorem dX5_doStep_57 : decode cX5_doStep 57 = .ok (.ifCond .ne 7, 3) := of_row (r := (57, .ifCond .ne 7, 3)) DX5_doStep_b0 33 rfl
theorem dX5_doStep_60 : decode cX5_doStep 60 = .ok (.lconst 1, 1) := of_row (r := (60, .lconst 1, 1)) DX5_doStep_b0 34 rfl
theorem dX5_doStep_61 : decode cX5_doStep 61 = .ok (.goto 4, 3) := of_row (r := (61, .goto 4, 3)) DX5_doStep_b0 35 rfl
theorem dX5_doStep_64 : decode cX5_doStep 64 = .ok (.lconst 0, 1) := of_row (r := (64, .lconst 0, 1)) DX5_doStep_b0 36 rfl
theorem dX5_doStep_65 : decode cX5_doStep 65 = .ok (.invokevirtual 47, 3) := of_row (r := (65, .invokevirtual 47, 3)) DX5_doStep_b0 37 rfl
theorem dX5_doStep_68 : decode cX5_doStep 68 = .ok (.goto 25, 3) := of_row (r := (68, .goto 25, 3)) DX5_doStep_b0 38 rfl
theorem dX5_doStep_71 : decode cX5_doStep 71 = .ok (.aload_n 0, 1) := of_row (r := (71, .aload_n 0, 1)) DX5_doStep_b0 39 rfl
theorem dX5_doStep_72 : decode cX5_doStep 72 = .ok (.invokevirtual 43, 3) := of_row (r := (72, .invokevirtual 43, 3)) DX5_doStep_b0 40 rfl
theorem dX5_doStep_75 : decode cX5_doStep 75 = .ok (.lstore_n 3, 1) := of_row (r := (75, .lstore_n 3, 1)) DX5_doStep_b0 41 rfl
theorem dX5_doStep_76 : decode cX5_doStep 76 = .ok (.aload_n 0, 1) := of_row (r := (76, .aload_n 0, 1)) DX5_doStep_b0 42 rfl
theorem dX5_doStep_77 : decode cX5_doStep 77 = .ok (.invokevirtual 43, 3) := of_row (r := (77, .invokevirtual 43, 3)) DX5_doStep_b0 43 rfl
theorem dX5_doStep_80 : decode cX5_doStep 80 = .ok (.lstore 5, 2) := of_row (r := (80, .lstore 5, 2)) DX5_doStep_b0 44 rfl
theorem dX5_doStep_82 : decode cX5_doStep 82 = .ok (.aload_n 0, 1) := of_row (r := (82, .aload_n 0, 1)) DX5_doStep_b0 45 rfl
theorem dX5_doStep_83 : decode cX5_doStep 83 = .ok (.iload_n 2, 1) := of_row (r := (83, .iload_n 2, 1)) DX5_doStep_b0 46 rfl
theorem dX5_doStep_84 : decode cX5_doStep 84 = .ok (.lload 5, 2) := of_row (r := (84, .lload 5, 2)) DX5_doStep_b0 47 rfl
theorem dX5_doStep_86 : decode cX5_doStep 86 = .ok (.lload_n 3, 1) := of_row (r := (86, .lload_n 3, 1)) DX5_doStep_b0 48 rfl
theorem dX5_doStep_87 : decode cX5_doStep 87 = .ok (.invokestatic 51, 3) := of_row (r := (87, .invokestatic 51, 3)) DX5_doStep_b0 49 rfl
theorem dX5_doStep_90 : decode cX5_doStep 90 = .ok (.invokevirtual 47, 3) := of_row (r := (90, .invokevirtual 47, 3)) DX5_doStep_b0 50 rfl
theorem dX5_doStep_93 : decode cX5_doStep 93 = .ok (.return_, 1) := of_row (r := (93, .return_, 1)) DX5_doStep_b0 51 rfl
set_option maxRecDepth 20000 in
theorem DX5_joined_b0 : ([(0, .iload_n 0, 1), (1, .lookupswitch 119 #[(8, 115), (42, 75), (43, 67), (45, 71), (60, 79), (61, 91), (62, 103)], 67), (68, .lload_n 1, 1), (69, .lload_n 3, 1), (70, .ladd, 1), (71, .lreturn, 1), (72, .lload_n 1, 1), (73, .lload_n 3, 1), (74, .lsub, 1), (75, .lreturn, 1), (76, .lload_n 1, 1), (77, .lload_n 3, 1), (78, .lmul, 1), (79, .lreturn, 1), (80, .lload_n 1, 1), (81, .lload_n 3, 1), (82, .lcmp, 1), (83, .ifCond .ge 7, 3), (86, .lconst 1, 1), (87, .goto 4, 3), (90, .lconst 0, 1), (91, .lreturn, 1), (92, .lload_n 1, 1), (93, .lload_n 3, 1), (94, .lcmp, 1), (95, .ifCond .ne 7, 3), (98, .lconst 1, 1), (99, .goto 4, 3), (102, .lconst 0, 1), (103, .lreturn, 1), (104, .lload_n 1, 1), (105, .lload_n 3, 1), (106, .lcmp, 1), (107, .ifCond .le 7, 3), (110, .lconst 1, 1), (111, .goto 4, 3), (114, .lconst 0, 1), (115, .lreturn, 1), (116, .lload_n 1, 1), (117, .lload_n 3, 1), (118, .land, 1), (119, .lreturn, 1), (120, .lload_n 1, 1), (121, .lload_n 3, 1), (122, .lor, 1), (123, .lreturn, 1)] : List (Nat × Instr × Nat)).all (fun r => decide (decode cX5_joined r.1 = .ok r.2)) = true := by decide +kernel
theorem dX5_joined_0 : decode cX5_joined 0 = .ok (.iload_n 0, 1) := of_row (r := (0, .iload_n 0, 1)) DX5_joined_b0 0 rfl
theorem dX5_joined_1 : decode cX5_joined 1 = .ok (.lookupswitch 119 #[(8, 115), (42, 75), (43, 67), (45, 71), (60, 79), (61, 91), (62, 103)], 67) := of_row (r := (1, .lookupswitch 119 #[(8, 115), (42, 75), (43, 67), (45, 71), (60, 79), (61, 91), (62, 103)], 67)) DX5_joined_b0 1 rfl
theorem dX5_joined_68 : decode cX5_joined 68 = .ok (.lload_n 1, 1) := of_row (r := (68, .lload_n 1, 1)) DX5_joined_b0 2 rfl
theorem dX5_joined_69 : decode cX5_joined 69 = .ok (.lload_n 3, 1) := of_row (r := (69, .lload_n 3, 1)) DX5_joined_b0 3 rfl
theorem dX5_joined_70 : decode cX5_joined 70 = .ok (.ladd, 1) := of_row (r := (70, .ladd, 1)) DX5_joined_b0 4 rfl
theorem dX5_joined_71 : decode cX5_joined 71 = .ok (.lreturn, 1) := of_row (r := (71, .lreturn, 1)) DX5_joined_b0 5 rfl
theorem dX5_joined_72 : decode cX5_joined 72 = .ok (.lload_n 1, 1) := of_row (r := (72, .lload_n 1, 1)) DX5_joined_b0 6 rfl
theorem dX5_joined_73 : decode cX5_joined 73 = .ok (.lload_n 3, 1) := of_row (r := (73, .lload_n 3, 1)) DX5_joined_b0 7 rfl
theorem dX5_joined_74 : decode cX5_joined 74 = .ok (.lsub, 1) := of_row (r := (74, .lsub, 1)) DX5_joined_b0 8 rfl
theorem dX5_joined_75 : decode cX5_joined 75 = .ok (.lreturn, 1) := of_row (r := (75, .lreturn, 1)) DX5_joined_b0 9 rfl
theorem dX5_joined_76 : decode cX5_joined 76 = .ok (.lload_n 1, 1) := of_row (r := (76, .lload_n 1, 1)) DX5_joined_b0 10 rfl
theorem dX5_joined_77 : decode cX5_joined 77 = .ok (.lload_n 3, 1) := of_row (r := (77, .lload_n 3, 1)) DX5_joined_b0 11 rfl
theorem dX5_joined_78 : decode cX5_joined 78 = .ok (.lmul, 1) := of_row (r := (78, .lmul, 1)) DX5_joined_b0 12 rfl
theorem dX5_joined_79 : decode cX5_joined 79 = .ok (.lreturn, 1) := of_row (r := (79, .lreturn, 1)) DX5_joined_b0 13 rfl
theorem dX5_joined_80 : decode cX5_joined 80 = .ok (.lload_n 1, 1) := of_row (r := (80, .lload_n 1, 1)) DX5_joined_b0 14 rfl
theorem dX5_joined_81 : decode cX5_joined 81 = .ok (.lload_n 3, 1) := of_row (r := (81, .lload_n 3, 1)) DX5_joined_b0 15 rfl
theorem dX5_joined_82 : decode cX5_joined 82 = .ok (.lcmp, 1) := of_row (r := (82, .lcmp, 1)) DX5_joined_b0 16 rfl
theorem dX5_joined_83 : decode cX5_joined 83 = .ok (.ifCond .ge 7, 3) := of_row (r := (83, .ifCond .ge 7, 3)) DX5_joined_b0 17 rfl
theorem dX5_joined_86 : decode cX5_joined 86 = .ok (.lconst 1, 1) := of_row (r := (86, .lconst 1, 1)) DX5_joined_b0 18 rfl
theorem dX5_joined_87 : decode cX5_joined 87 = .ok (.goto 4, 3) := of_row (r := (87, .goto 4, 3)) DX5_joined_b0 19 rfl
theorem dX5_joined_90 : decode cX5_joined 90 = .ok (.lconst 0, 1) := of_row (r := (90, .lconst 0, 1)) DX5_joined_b0 20 rfl
theorem dX5_joined_91 : decode cX5_joined 91 = .ok (.lreturn, 1) := of_row (r := (91, .lreturn, 1)) DX5_joined_b0 21 rfl
theorem dX5_joined_92 : decode cX5_joined 92 = .ok (.lload_n 1, 1) := of_row (r := (92, .lload_n 1, 1)) DX5_joined_b0 22 rfl
theorem dX5_joined_93 : decode cX5_joined 93 = .ok (.lload_n 3, 1) := of_row (r := (93, .lload_n 3, 1)) DX5_joined_b0 23 rfl
theorem dX5_joined_94 : decode cX5_joined 94 = .ok (.lcmp, 1) := of_row (r := (94, .lcmp, 1)) DX5_joined_b0 24 rfl
theorem dX5_joined_95 : decode cX5_joined 95 = .ok (.ifCond .ne 7, 3) := of_row (r := (95, .ifCond .ne 7, 3)) DX5_joined_b0 25 rfl
theorem dX5_joined_98 : decode cX5_joined 98 = .ok (.lconst 1, 1) := of_row (r := (98, .lconst 1, 1)) DX5_joined_b0 26 rfl
theorem dX5_joined_99 : decode cX5_joined 99 = .ok (.goto 4, 3) := of_row (r := (99, .goto 4, 3)) DX5_joined_b0 27 rfl
theorem dX5_joined_102 : decode cX5_joined 102 = .ok (.lconst 0, 1) := of_row (r := (102, .lconst 0, 1)) DX5_joined_b0 28 rfl
theorem dX5_joined_103 : decode cX5_joined 103 = .ok (.lreturn, 1) := of_row (r := (103, .lreturn, 1)) DX5_joined_b0 29 rfl
theorem dX5_joined_104 : decode cX5_joined 104 = .ok (.lload_n 1, 1) := of_row (r := (104, .lload_n 1, 1)) DX5_joined_b0 30 rfl
theorem dX5_joined_105 : decode cX5_joined 105 = .ok (.lload_n 3, 1) := of_row (r := (105, .lload_n 3, 1)) DX5_joined_b0 31 rfl
theorem dX5_joined_106 : decode cX5_joined 106 = .ok (.lcmp, 1) := of_row (r := (106, .lcmp, 1)) DX5_joined_b0 32 rfl
theorem dX5_joined_107 : decode cX5_joined 107 = .ok (.ifCond .le 7, 3) := of_row (r := (107, .ifCond .le 7, 3)) DX5_joined_b0 33 rfl
theorem dX5_joined_110 : decode cX5_joined 110 = .ok (.lconst 1, 1) := of_row (r := (110, .lconst 1, 1)) DX5_joined_b0 34 rfl
theorem dX5_joined_111 : decode cX5_joined 111 = .ok (.goto 4, 3) := of_row (r := (111, .goto 4, 3)) DX5_joined_b0 35 rfl
theorem dX5_joined_114 : decode cX5_joined 114 = .ok (.lconst 0, 1) := of_row (r := (114, .lconst 0, 1)) DX5_joined_b0 36 rfl
theorem dX5_joined_115 : decode cX5_joined 115 = .ok (.lreturn, 1) := of_row (r := (115, .lreturn, 1)) DX5_joined_b0 37 rfl
theorem dX5_joined_116 : decode cX5_joined 116 = .ok (.lload_n 1, 1) := of_row (r := (116, .lload_n 1, 1)) DX5_joined_b0 38 rfl
theorem dX5_joined_117 : decode cX5_joined 117 = .ok (.lload_n 3, 1) := of_row (r := (117, .lload_n 3, 1)) DX5_joined_b0 39 rfl
theorem dX5_joined_118 : decode cX5_joined 118 = .ok (.land, 1) := of_row (r := (118, .land, 1)) DX5_joined_b0 40 rfl
theorem dX5_joined_119 : decode cX5_joined 119 = .ok (.lreturn, 1) := of_row (r := (119, .lreturn, 1)) DX5_joined_b0 41 rfl
theorem dX5_joined_120 : decode cX5_joined 120 = .ok (.lload_n 1, 1) := of_row (r := (120, .lload_n 1, 1)) DX5_joined_b0 42 rfl
theorem dX5_joined_121 : decode cX5_joined 121 = .ok (.lload_n 3, 1) := of_row (r := (121, .lload_n 3, 1)) DX5_joined_b0 43 rfl
theorem dX5_joined_122 : decode cX5_joined 122 = .ok (.lor, 1) := of_row (r := (122, .lor, 1)) DX5_joined_b0 44 rfl
theorem dX5_joined_123 : decode cX5_joined 123 = .ok (.lreturn, 1) := of_row (r := (123, .lreturn, 1)) DX5_joined_b0 45 rfl
set_option maxRecDepth 20000 in
theorem DX5_push_b0 : ([(0, .aload_n 0, 1), (1, .getfield 32, 3), (4, .bipush 64, 2), (6, .if_icmp .ge 23, 3), (9, .aload_n 0, 1), (10, .getfield 15, 3), (13, .aload_n 0, 1), (14, .getfield 32, 3), (17, .lload_n 1, 1), (18, .lastore, 1), (19, .aload_n 0, 1), (20, .dup, 1), (21, .getfield 32, 3), (24, .iconst 1, 1), (25, .iadd, 1), (26, .putfield 32, 3), (29, .return_, 1)] : List (Nat × Instr × Nat)).all (fun r => decide (decode cX5_push r.1 = .ok r.2)) = true := by decide +kernel
theorem dX5_push_0 : decode cX5_push 0 = .ok (.aload_n 0, 1) := of_row (r := (0, .aload_n 0, 1)) DX5_push_b0 0 rfl
theorem dX5_push_1 : decode cX5_push 1 = .ok (.getfield 32, 3) := of_row (r := (1, .getfield 32, 3)) DX5_push_b0 1 rfl
theorem dX5_push_4 : decode cX5_push 4 = .ok (.bipush 64, 2) := of_row (r := (4, .bipush 64, 2)) DX5_push_b0 2 rfl
theorem dX5_push_6 : decode cX5_push 6 = .ok (.if_icmp .ge 23, 3) := of_row (r := (6, .if_icmp .ge 23, 3)) DX5_push_b0 3 rfl
theorem dX5_push_9 : decode cX5_push 9 = .ok (.aload_n 0, 1) := of_row (r := (9, .aload_n 0, 1)) DX5_push_b0 4 rfl
theorem dX5_push_10 : decode cX5_push 10 = .ok (.getfield 15, 3) := of_row (r := (10, .getfield 15, 3)) DX5_push_b0 5 rfl
theorem dX5_push_13 : decode cX5_push 13 = .ok (.aload_n 0, 1) := of_row (r := (13, .aload_n 0, 1)) DX5_push_b0 6 rfl
theorem dX5_push_14 : decode cX5_push 14 = .ok (.getfield 32, 3) := of_row (r := (14, .getfield 32, 3)) DX5_push_b0 7 rfl
theorem dX5_push_17 : decode cX5_push 17 = .ok (.lload_n 1, 1) := of_row (r := (17, .lload_n 1, 1)) DX5_push_b0 8 rfl
theorem dX5_push_18 : decode cX5_push 18 = .ok (.lastore, 1) := of_row (r := (18, .lastore, 1)) DX5_push_b0 9 rfl
theorem dX5_push_19 : decode cX5_push 19 = .ok (.aload_n 0, 1) := of_row (r := (19, .aload_n 0, 1)) DX5_push_b0 10 rfl
theorem dX5_push_20 : decode cX5_push 20 = .ok (.dup, 1) := of_row (r := (20, .dup, 1)) DX5_push_b0 11 rfl
theorem dX5_push_21 : decode cX5_push 21 = .ok (.getfield 32, 3) := of_row (r := (21, .getfield 32, 3)) DX5_push_b0 12 rfl
theorem dX5_push_24 : decode cX5_push 24 = .ok (.iconst 1, 1) := of_row (r := (24, .iconst 1, 1)) DX5_push_b0 13 rfl
theorem dX5_push_25 : decode cX5_push 25 = .ok (.iadd, 1) := of_row (r := (25, .iadd, 1)) DX5_push_b0 14 rfl
theorem dX5_push_26 : decode cX5_push 26 = .ok (.putfield 32, 3) := of_row (r := (26, .putfield 32, 3)) DX5_push_b0 15 rfl
theorem dX5_push_29 : decode cX5_push 29 = .ok (.return_, 1) := of_row (r := (29, .return_, 1)) DX5_push_b0 16 rfl
set_option maxRecDepth 20000 in
theorem DX5_pop_b0 : ([(0, .aload_n 0, 1), (1, .getfield 32, 3), (4, .iconst 1, 1), (5, .if_icmp .ge 5, 3), (8, .lconst 0, 1), (9, .lreturn, 1), (10, .aload_n 0, 1), (11, .dup, 1), (12, .getfield 32, 3), (15, .iconst 1, 1), (16, .isub, 1), (17, .putfield 32, 3), (20, .aload_n 0, 1), (21, .getfield 15, 3), (24, .aload_n 0, 1), (25, .getfield 32, 3), (28, .laload, 1), (29, .lreturn, 1)] : List (Nat × Instr × Nat)).all (fun r => decide (decode cX5_pop r.1 = .ok r.2)) = true := by decide +kernel
theorem dX5_pop_0 : decode cX5_pop 0 = .ok (.aload_n 0, 1) := of_row (r := (0, .aload_n 0, 1)) DX5_pop_b0 0 rfl
theorem dX5_pop_1 : decode cX5_pop 1 = .ok (.getfield 32, 3) := of_row (r := (1, .getfield 32, 3)) DX5_pop_b0 1 rfl
theorem dX5_pop_4 : decode cX5_pop 4 = .ok (.iconst 1, 1) := of_row (r := (4, .iconst 1, 1)) DX5_pop_b0 2 rfl
theorem dX5_pop_5 : decode cX5_pop 5 = .ok (.if_icmp .ge 5, 3) := of_row (r := (5, .if_icmp .ge 5, 3)) DX5_pop_b0 3 rfl
theorem dX5_pop_8 : decode cX5_pop 8 = .ok (.lconst 0, 1) := of_row (r := (8, .lconst 0, 1)) DX5_pop_b0 4 rfl
theorem dX5_pop_9 : decode cX5_pop 9 = .ok (.lreturn, 1) := of_row (r := (9, .lreturn, 1)) DX5_pop_b0 5 rfl
theorem dX5_pop_10 : decode cX5_pop 10 = .ok (.aload_n 0, 1) := of_row (r := (10, .aload_n 0, 1)) DX5_pop_b0 6 rfl
theorem dX5_pop_11 : decode cX5_pop 11 = .ok (.dup, 1) := of_row (r := (11, .dup, 1)) DX5_pop_b0 7 rfl
theorem dX5_pop_12 : decode cX5_pop 12 = .ok (.getfield 32, 3) := of_row (r := (12, .getfield 32, 3)) DX5_pop_b0 8 rfl
theorem dX5_pop_15 : decode cX5_pop 15 = .ok (.iconst 1, 1) := of_row (r := (15, .iconst 1, 1)) DX5_pop_b0 9 rfl
theorem dX5_pop_16 : decode cX5_pop 16 = .ok (.isub, 1) := of_row (r := (16, .isub, 1)) DX5_pop_b0 10 rfl
theorem dX5_pop_17 : decode cX5_pop 17 = .ok (.putfield 32, 3) := of_row (r := (17, .putfield 32, 3)) DX5_pop_b0 11 rfl
theorem dX5_pop_20 : decode cX5_pop 20 = .ok (.aload_n 0, 1) := of_row (r := (20, .aload_n 0, 1)) DX5_pop_b0 12 rfl
theorem dX5_pop_21 : decode cX5_pop 21 = .ok (.getfield 15, 3) := of_row (r := (21, .getfield 15, 3)) DX5_pop_b0 13 rfl
theorem dX5_pop_24 : decode cX5_pop 24 = .ok (.aload_n 0, 1) := of_row (r := (24, .aload_n 0, 1)) DX5_pop_b0 14 rfl
theorem dX5_pop_25 : decode cX5_pop 25 = .ok (.getfield 32, 3) := of_row (r := (25, .getfield 32, 3)) DX5_pop_b0 15 rfl
theorem dX5_pop_28 : decode cX5_pop 28 = .ok (.laload, 1) := of_row (r := (28, .laload, 1)) DX5_pop_b0 16 rfl
theorem dX5_pop_29 : decode cX5_pop 29 = .ok (.lreturn, 1) := of_row (r := (29, .lreturn, 1)) DX5_pop_b0 17 rfl
set_option maxRecDepth 20000 in
theorem DX6_init_b0 : ([(0, .aload_n 0, 1), (1, .invokespecial 1, 3), (4, .aload_n 0, 1), (5, .new 7, 3), (8, .dup, 1), (9, .invokespecial 9, 3), (12, .putfield 10, 3), (15, .aload_n 0, 1), (16, .new 16, 3), (19, .dup, 1), (20, .aload_n 0, 1), (21, .getfield 10, 3), (24, .invokespecial 18, 3), (27, .putfield 21, 3), (30, .aload_n 0, 1), (31, .new 25, 3), (34, .dup, 1), (35, .invokespecial 27, 3), (38, .putfield 28, 3), (41, .aload_n 0, 1), (42, .bipush 10, 2), (44, .anewarray 32, 3), (47, .putfield 34, 3), (50, .aload_n 0, 1), (51, .new 38, 3), (54, .dup, 1), (55, .iconst 2, 1), (56, .bipush 40, 2), (58, .invokespecial 40, 3), (61, .putfield 43, 3), (64, .aload_n 0, 1), (65, .bipush 16, 2), (67, .newarray .long, 2), (69, .putfield 47, 3), (72, .aload_n 0, 1), (73, .bipush 16, 2), (75, .newarray .boolean, 2), (77, .putfield 51, 3), (80, .aload_n 0, 1), (81, .bipush 16, 2), (83, .newarray .int, 2), (85, .putfield 55, 3), (88, .aload_n 0, 1), (89, .bipush 8, 2), (91, .newarray .int, 2), (93, .putfield 59, 3), (96, .aload_n 0, 1), (97, .bipush 8, 2), (99, .newarray .int, 2), (101, .putfield 62, 3), (104, .aload_n 0, 1), (105, .new 38, 3), (108, .dup, 1), (109, .bipush 7, 2), (111, .sipush 400, 3), (114, .invokespecial 40, 3), (117, .putfield 65, 3), (120, .aload_n 0, 1), (121, .new 38, 3), (124, .dup, 1)] : List (Nat × Instr × Nat)).all (fun r => decide (decode cX6_init r.1 = .ok r.2)) = true := by decide +kernel
theorem dX6_init_0 : decode cX6_init 0 = .ok (.aload_n 0, 1) := of_row (r := (0, .aload_n 0, 1)) DX6_init_b0 0 rfl
theorem dX6_init_1 : decode cX6_init 1 = .ok (.invokespecial 1, 3) := of_row (r := (1, .invokespecial 1, 3)) DX6_init_b0 1 rfl
theorem dX6_init_4 : decode cX6_init 4 = .ok (.aload_n 0, 1) := of_row (r := (4, .aload_n 0, 1)) DX6_init_b0 2 rfl
theorem dX6_init_5 : decode cX6_init 5 = .ok (.new 7, 3) := of_row (r := (5, .new 7, 3)) DX6_init_b0 3 rfl
theorem dX6_init_8 : decode cX6_init 8 = .ok (.dup, 1) := of_row (r := (8, .dup, 1)) DX6_init_b0 4 rfl
theorem dX6_init_9 : decode cX6_init 9 = .ok (.invokespecial 9, 3) := of_row (r := (9, .invokespecial 9, 3)) DX6_init_b0 5 rfl
theorem dX6_init_12 : decode cX6_init 12 = .ok (.putfield 10, 3) := of_row (r := (12, .putfield 10, 3)) DX6_init_b0 6 rfl
theorem dX6_init_15 : decode cX6_init 15 = .ok (.aload_n 0, 1) := of_row (r := (15, .aload_n 0, 1)) DX6_init_b0 7 rfl
theorem dX6_init_16 : decode cX6_init 16 = .ok (.new 16, 3) := of_row (r := (16, .new 16, 3)) DX6_init_b0 8 rfl
theorem dX6_init_19 : decode cX6_init 19 = .ok (.dup, 1) := of_row (r := (19, .dup, 1)) DX6_init_b0 9 rfl
theorem dX6_init_20 : decode cX6_init 20 = .ok (.aload_n 0, 1) := of_row (r := (20, .aload_n 0, 1)) DX6_init_b0 10 rfl
theorem dX6_init_21 : decode cX6_init 21 = .ok (.getfield 10, 3) := of_row (r := (21, .getfield 10, 3)) DX6_init_b0 11 rfl
theorem dX6_init_24 : decode cX6_init 24 = .ok (.invokespecial 18, 3) := of_row (r := (24, .invokespecial 18, 3)) DX6_init_b0 12 rfl
theorem dX6_init_27 : decode cX6_init 27 = .ok (.putfield 21, 3) := of_row (r := (27, .putfield 21, 3)) DX6_init_b0 13 rfl
theorem dX6_init_30 : decode cX6_init 30 = .ok (.aload_n 0, 1) := of_row (r := (30, .aload_n 0, 1)) DX6_init_b0 14 rfl
theorem dX6_init_31 : decode cX6_init 31 = .ok (.new 25, 3) := of_row (r := (31, .new 25, 3)) DX6_init_b0 15 rfl
theorem dX6_init_34 : decode cX6_init 34 = .ok (.dup, 1) := of_row (r := (34, .dup, 1)) DX6_init_b0 16 rfl
theorem dX6_init_35 : decode cX6_init 35 = .ok (.invokespecial 27, 3) := of_row (r := (35, .invokespecial 27, 3)) DX6_init_b0 17 rfl
theorem dX6_init_38 : decode cX6_init 38 = .ok (.putfield 28, 3) := of_row (r := (38, .putfield 28, 3)) DX6_init_b0 18 rfl
theorem dX6_init_41 : decode cX6_init 41 = .ok (.aload_n 0, 1) := of_row (r := (41, .aload_n 0, 1)) DX6_init_b0 19 rfl
theorem dX6_init_42 : decode cX6_init 42 = .ok (.bipush 10, 2) := of_row (r := (42, .bipush 10, 2)) DX6_init_b0 20 rfl
theorem dX6_init_44 : decode cX6_init 44 = .ok (.anewarray 32, 3) := of_row (r := (44, .anewarray 32, 3)) DX6_init_b0 21 rfl
theorem dX6_init_47 : decode cX6_init 47 = .ok (.putfield 34, 3) := of_row (r := (47, .putfield 34, 3)) DX6_init_b0 22 rfl
theorem dX6_init_50 : decode cX6_init 50 = .ok (.aload_n 0, 1) := of_row (r := (50, .aload_n 0, 1)) DX6_init_b0 23 rfl
theorem dX6_init_51 : decode cX6_init 51 = .ok (.new 38, 3) := of_row (r := (51, .new 38, 3)) DX6_init_b0 24 rfl
theorem dX6_init_54 : decode cX6_init 54 = .ok (.dup, 1) := of_row (r := (54, .dup, 1)) DX6_init_b0 25 rfl
theorem dX6_init_55 : decode cX6_init 55 = .ok (.iconst 2, 1) := of_row (r := (55, .iconst 2, 1)) DX6_init_b0 26 rfl
theorem dX6_init_56 : decode cX6_init 56 = .ok (.bipush 40, 2) := of_row (r := (56, .bipush 40, 2)) DX6_init_b0 27 rfl
theorem dX6_init_58 : decode cX6_init 58 = .ok (.invokespecial 40, 3) := of_row (r := (58, .invokespecial 40, 3)) DX6_init_b0 28 rfl
theorem dX6_init_61 : decode cX6_init 61 = .ok (.putfield 43, 3) := of_row (r := (61, .putfield 43, 3)) DX6_init_b0 29 rfl
theorem dX6_init_64 : decode cX6_init 64 = .ok (.aload_n 0, 1) := of_row (r := (64, .aload_n 0, 1)) DX6_init_b0 30 rfl
theorem dX6_init_65 : decode cX6_init 65 = .ok (.bipush 16, 2) := of_row (r := (65, .bipush 16, 2)) DX6_init_b0 31 rfl
theorem dX6_init_67 : decode cX6_init 67 = .ok (.newarray .long, 2) := of_row (r := (67, .newarray .long, 2)) DX6_init_b0 32 rfl
theorem dX6_init_69 : decode cX6_init 69 = .ok (.putfield 47, 3) := of_row (r := (69, .putfield 47, 3)) DX6_init_b0 33 rfl
theorem dX6_init_72 : decode cX6_init 72 = .ok (.aload_n 0, 1) := of_row (r := (72, .aload_n 0, 1)) DX6_init_b0 34 rfl
theorem dX6_init_73 : decode cX6_init 73 = .ok (.bipush 16, 2) := of_row (r := (73, .bipush 16, 2)) DX6_init_b0 35 rfl
theorem dX6_init_75 : decode cX6_init 75 = .ok (.newarray .boolean, 2) := of_row (r := (75, .newarray .boolean, 2)) DX6_init_b0 36 rfl
theorem dX6_init_77 : decode cX6_init 77 = .ok (.putfield 51, 3) := of_row (r := (77, .putfield 51, 3)) DX6_init_b0 37 rfl
theorem dX6_init_80 : decode cX6_init 80 = .ok (.aload_n 0, 1) := of_row (r := (80, .aload_n 0, 1)) DX6_init_b0 38 rfl
theorem dX6_init_81 : decode cX6_init 81 = .ok (.bipush 16, 2) := of_row (r := (81, .bipush 16, 2)) DX6_init_b0 39 rfl
theorem dX6_init_83 : decode cX6_init 83 = .ok (.newarray .int, 2) := of_row (r := (83, .newarray .int, 2)) DX6_init_b0 40 rfl
theorem dX6_init_85 : decode cX6_init 85 = .ok (.putfield 55, 3) := of_row (r := (85, .putfield 55, 3)) DX6_init_b0 41 rfl
theorem dX6_init_88 : decode cX6_init 88 = .ok (.aload_n 0, 1) := of_row (r := (88, .aload_n 0, 1)) DX6_init_b0 42 rfl
theorem dX6_init_89 : decode cX6_init 89 = .ok (.bipush 8, 2) := of_row (r := (89, .bipush 8, 2)) DX6_init_b0 43 rfl
theorem dX6_init_91 : decode cX6_init 91 = .ok (.newarray .int, 2) := of_row (r := (91, .newarray .int, 2)) DX6_init_b0 44 rfl
theorem dX6_init_93 : decode cX6_init 93 = .ok (.putfield 59, 3) := of_row (r := (93, .putfield 59, 3)) DX6_init_b0 45 rfl
theorem dX6_init_96 : decode cX6_init 96 = .ok (.aload_n 0, 1) := of_row (r := (96, .aload_n 0, 1)) DX6_init_b0 46 rfl
theorem dX6_init_97 : decode cX6_init 97 = .ok (.bipush 8, 2) := of_row (r := (97, .bipush 8, 2)) DX6_init_b0 47 rfl
theorem dX6_init_99 : decode cX6_init 99 = .ok (.newarray .int, 2) := of_row (r := (99, .newarray .int, 2)) DX6_init_b0 48 rfl
theorem dX6_init_101 : decode cX6_init 101 = .ok (.putfield 62, 3) := of_row (r := (101, .putfield 62, 3)) DX6_init_b0 49 rfl
theorem dX6_init_104 : decode cX6_init 104 = .ok (.aload_n 0, 1) := of_row (r := (104, .aload_n 0, 1)) DX6_init_b0 50 rfl
theorem dX6_init_105 : decode cX6_init 105 = .ok (.new 38, 3) := of_row (r := (105, .new 38, 3)) DX6_init_b0 51 rfl
theorem dX6_init_108 : decode cX6_init 108 = .ok (.dup, 1) := of_row (r := (108, .dup, 1)) DX6_init_b0 52 rfl
theorem dX6_init_109 : decode cX6_init 109 = .ok (.bipush 7, 2) := of_row (r := (109, .bipush 7, 2)) DX6_init_b0 53 rfl
theorem dX6_init_111 : decode cX6_init 111 = .ok (.sipush 400, 3) := of_row (r := (111, .sipush 400, 3)) DX6_init_b0 54 rfl
theorem dX6_init_114 : decode cX6_init 114 = .ok (.invokespecial 40, 3) := of_row (r := (114, .invokespecial 40, 3)) DX6_init_b0 55 rfl
theorem dX6_init_117 : decode cX6_init 117 = .ok (.putfield 65, 3) := of_row (r := (117, .putfield 65, 3)) DX6_init_b0 56 rfl
theorem dX6_init_120 : decode cX6_init 120 = .ok (.aload_n 0, 1) := of_row (r := (120, .aload_n 0, 1)) DX6_init_b0 57 rfl
theorem dX6_init_121 : decode cX6_init 121 = .ok (.new 38, 3) := of_row (r := (121, .new 38, 3)) DX6_init_b0 58 rfl
theorem dX6_init_124 : decode cX6_init 124 = .ok (.dup, 1) := of_row (r := (124, .dup, 1)) DX6_init_b0 59 rfl
set_option maxRecDepth 20000 in
theorem DX6_init_b1 : ([(125, .bipush 8, 2), (127, .sipush 4000, 3), (130, .invokespecial 40, 3), (133, .putfield 68, 3), (136, .aload_n 0, 1), (137, .new 38, 3), (140, .dup, 1), (141, .iconst 1, 1), (142, .sipush 2000, 3), (145, .invokespecial 40, 3), (148, .putfield 71, 3), (151, .aload_n 0, 1), (152, .new 74, 3), (155, .dup, 1), (156, .invokespecial 76, 3), (159, .putfield 77, 3), (162, .aload_n 0, 1), (163, .getfield 55, 3), (166, .iconst (-1), 1), (167, .invokestatic 81, 3), (170, .aload_n 0, 1), (171, .getfield 62, 3), (174, .iconst (-1), 1), (175, .invokestatic 81, 3), (178, .return_, 1)] : List (Nat × Instr × Nat)).all (fun r => decide (decode cX6_init r.1 = .ok r.2)) = true := by decide +kernel
theorem dX6_init_125 : decode cX6_init 125 = .ok (.bipush 8, 2) := of_row (r := (125, .bipush 8, 2)) DX6_init_b1 0 rfl
theorem dX6_init_127 : decode cX6_init 127 = .ok (.sipush 4000, 3) := of_row (r := (127, .sipush 4000, 3)) DX6_init_b1 1 rfl
theorem dX6_init_130 : decode cX6_init 130 = .ok (.invokespecial 40, 3) := of_row (r := (130, .invokespecial 40, 3)) DX6_init_b1 2 rfl
theorem dX6_init_133 : decode cX6_init 133 = .ok (.putfield 68, 3) := of_row (r := (133, .putfield 68, 3)) DX6_init_b1 3 rfl
theorem dX6_init_136 : decode cX6_init 136 = .ok (.aload_n 0, 1) := of_row (r := (136, .aload_n 0, 1)) DX6_init_b1 4 rfl
theorem dX6_init_137 : decode cX6_init 137 = .ok (.new 38, 3) := of_row (r := (137, .new 38, 3)) DX6_init_b1 5 rfl
theorem dX6_init_140 : decode cX6_init 140 = .ok (.dup, 1) := of_row (r := (140, .dup, 1)) DX6_init_b1 6 rfl
theorem dX6_init_141 : decode cX6_init 141 = .ok (.iconst 1, 1) := of_row (r := (141, .iconst 1, 1)) DX6_init_b1 7 rfl
theorem dX6_init_142 : decode cX6_init 142 = .ok (.sipush 2000, 3) := of_row (r := (142, .sipush 2000, 3)) DX6_init_b1 8 rfl
theorem dX6_init_145 : decode cX6_init 145 = .ok (.invokespecial 40, 3) := of_row (r := (145, .invokespecial 40, 3)) DX6_init_b1 9 rfl
theorem dX6_init_148 : decode cX6_init 148 = .ok (.putfield 71, 3) := of_row (r := (148, .putfield 71, 3)) DX6_init_b1 10 rfl
theorem dX6_init_151 : decode cX6_init 151 = .ok (.aload_n 0, 1) := of_row (r := (151, .aload_n 0, 1)) DX6_init_b1 11 rfl
theorem dX6_init_152 : decode cX6_init 152 = .ok (.new 74, 3) := of_row (r := (152, .new 74, 3)) DX6_init_b1 12 rfl
theorem dX6_init_155 : decode cX6_init 155 = .ok (.dup, 1) := of_row (r := (155, .dup, 1)) DX6_init_b1 13 rfl
theorem dX6_init_156 : decode cX6_init 156 = .ok (.invokespecial 76, 3) := of_row (r := (156, .invokespecial 76, 3)) DX6_init_b1 14 rfl
theorem dX6_init_159 : decode cX6_init 159 = .ok (.putfield 77, 3) := of_row (r := (159, .putfield 77, 3)) DX6_init_b1 15 rfl
theorem dX6_init_162 : decode cX6_init 162 = .ok (.aload_n 0, 1) := of_row (r := (162, .aload_n 0, 1)) DX6_init_b1 16 rfl
theorem dX6_init_163 : decode cX6_init 163 = .ok (.getfield 55, 3) := of_row (r := (163, .getfield 55, 3)) DX6_init_b1 17 rfl
theorem dX6_init_166 : decode cX6_init 166 = .ok (.iconst (-1), 1) := of_row (r := (166, .iconst (-1), 1)) DX6_init_b1 18 rfl
theorem dX6_init_167 : decode cX6_init 167 = .ok (.invokestatic 81, 3) := of_row (r := (167, .invokestatic 81, 3)) DX6_init_b1 19 rfl
theorem dX6_init_170 : decode cX6_init 170 = .ok (.aload_n 0, 1) := of_row (r := (170, .aload_n 0, 1)) DX6_init_b1 20 rfl
theorem dX6_init_171 : decode cX6_init 171 = .ok (.getfield 62, 3) := of_row (r := (171, .getfield 62, 3)) DX6_init_b1 21 rfl
theorem dX6_init_174 : decode cX6_init 174 = .ok (.iconst (-1), 1) := of_row (r := (174, .iconst (-1), 1)) DX6_init_b1 22 rfl
theorem dX6_init_175 : decode cX6_init 175 = .ok (.invokestatic 81, 3) := of_row (r := (175, .invokestatic 81, 3)) DX6_init_b1 23 rfl
theorem dX6_init_178 : decode cX6_init 178 = .ok (.return_, 1) := of_row (r := (178, .return_, 1)) DX6_init_b1 24 rfl
set_option maxRecDepth 20000 in
theorem DX6_feed_b0 : ([(0, .aload_n 0, 1), (1, .getfield 10, 3), (4, .bipush 20, 2), (6, .invokevirtual 87, 3), (9, .ifCond .ne 6, 3), (12, .bipush (-3), 2), (14, .ireturn, 1), (15, .aload_n 0, 1), (16, .getfield 10, 3), (19, .iload_n 1, 1), (20, .invokevirtual 91, 3), (23, .aload_n 0, 1), (24, .getfield 10, 3), (27, .iload_n 2, 1), (28, .invokevirtual 91, 3), (31, .aload_n 0, 1), (32, .getfield 10, 3), (35, .iload_n 3, 1), (36, .invokevirtual 91, 3), (39, .aload_n 0, 1), (40, .getfield 10, 3), (43, .iload 4, 2), (45, .invokevirtual 91, 3), (48, .aload_n 0, 1), (49, .getfield 10, 3), (52, .iload 5, 2), (54, .invokevirtual 91, 3), (57, .aload_n 0, 1), (58, .getfield 10, 3), (61, .getfield 95, 3), (64, .ireturn, 1)] : List (Nat × Instr × Nat)).all (fun r => decide (decode cX6_feed r.1 = .ok r.2)) = true := by decide +kernel
theorem dX6_feed_0 : decode cX6_feed 0 = .ok (.aload_n 0, 1) := of_row (r := (0, .aload_n 0, 1)) DX6_feed_b0 0 rfl
theorem dX6_feed_1 : decode cX6_feed 1 = .ok (.getfield 10, 3) := of_row (r := (1, .getfield 10, 3)) DX6_feed_b0 1 rfl
theorem dX6_feed_4 : decode cX6_feed 4 = .ok (.bipush 20, 2) := of_row (r := (4, .bipush 20, 2)) DX6_feed_b0 2 rfl
theorem dX6_feed_6 : decode cX6_feed 6 = .ok (.invokevirtual 87, 3) := of_row (r := (6, .invokevirtual 87, 3)) DX6_feed_b0 3 rfl
theorem dX6_feed_9 : decode cX6_feed 9 = .ok (.ifCond .ne 6, 3) := of_row (r := (9, .ifCond .ne 6, 3)) DX6_feed_b0 4 rfl
theorem dX6_feed_12 : decode cX6_feed 12 = .ok (.bipush (-3), 2) := of_row (r := (12, .bipush (-3), 2)) DX6_feed_b0 5 rfl
theorem dX6_feed_14 : decode cX6_feed 14 = .ok (.ireturn, 1) := of_row (r := (14, .ireturn, 1)) DX6_feed_b0 6 rfl
theorem dX6_feed_15 : decode cX6_feed 15 = .ok (.aload_n 0, 1) := of_row (r := (15, .aload_n 0, 1)) DX6_feed_b0 7 rfl
theorem dX6_feed_16 : decode cX6_feed 16 = .ok (.getfield 10, 3) := of_row (r := (16, .getfield 10, 3)) DX6_feed_b0 8 rfl
theorem dX6_feed_19 : decode cX6_feed 19 = .ok (.iload_n 1, 1) := of_row (r := (19, .iload_n 1, 1)) DX6_feed_b0 9 rfl
theorem dX6_feed_20 : decode cX6_feed 20 = .ok (.invokevirtual 91, 3) := of_row (r := (20, .invokevirtual 91, 3)) DX6_feed_b0 10 rfl
theorem dX6_feed_23 : decode cX6_feed 23 = .ok (.aload_n 0, 1) := of_row (r := (23, .aload_n 0, 1)) DX6_feed_b0 11 rfl
theorem dX6_feed_24 : decode cX6_feed 24 = .ok (.getfield 10, 3) := of_row (r := (24, .getfield 10, 3)) DX6_feed_b0 12 rfl
theorem dX6_feed_27 : decode cX6_feed 27 = .ok (.iload_n 2, 1) := of_row (r := (27, .iload_n 2, 1)) DX6_feed_b0 13 rfl
theorem dX6_feed_28 : decode cX6_feed 28 = .ok (.invokevirtual 91, 3) := of_row (r := (28, .invokevirtual 91, 3)) DX6_feed_b0 14 rfl
theorem dX6_feed_31 : decode cX6_feed 31 = .ok (.aload_n 0, 1) := of_row (r := (31, .aload_n 0, 1)) DX6_feed_b0 15 rfl
theorem dX6_feed_32 : decode cX6_feed 32 = .ok (.getfield 10, 3) := of_row (r := (32, .getfield 10, 3)) DX6_feed_b0 16 rfl
theorem dX6_feed_35 : decode cX6_feed 35 = .ok (.iload_n 3, 1) := of_row (r := (35, .iload_n 3, 1)) DX6_feed_b0 17 rfl
theorem dX6_feed_36 : decode cX6_feed 36 = .ok (.invokevirtual 91, 3) := of_row (r := (36, .invokevirtual 91, 3)) DX6_feed_b0 18 rfl
theorem dX6_feed_39 : decode cX6_feed 39 = .ok (.aload_n 0, 1) := of_row (r := (39, .aload_n 0, 1)) DX6_feed_b0 19 rfl
theorem dX6_feed_40 : decode cX6_feed 40 = .ok (.getfield 10, 3) := of_row (r := (40, .getfield 10, 3)) DX6_feed_b0 20 rfl
theorem dX6_feed_43 : decode cX6_feed 43 = .ok (.iload 4, 2) := of_row (r := (43, .iload 4, 2)) DX6_feed_b0 21 rfl
theorem dX6_feed_45 : decode cX6_feed 45 = .ok (.invokevirtual 91, 3) := of_row (r := (45, .invokevirtual 91, 3)) DX6_feed_b0 22 rfl
theorem dX6_feed_48 : decode cX6_feed 48 = .ok (.aload_n 0, 1) := of_row (r := (48, .aload_n 0, 1)) DX6_feed_b0 23 rfl
theorem dX6_feed_49 : decode cX6_feed 49 = .ok (.getfield 10, 3) := of_row (r := (49, .getfield 10, 3)) DX6_feed_b0 24 rfl
theorem dX6_feed_52 : decode cX6_feed 52 = .ok (.iload 5, 2) := of_row (r := (52, .iload 5, 2)) DX6_feed_b0 25 rfl
theorem dX6_feed_54 : decode cX6_feed 54 = .ok (.invokevirtual 91, 3) := of_row (r := (54, .invokevirtual 91, 3)) DX6_feed_b0 26 rfl
theorem dX6_feed_57 : decode cX6_feed 57 = .ok (.aload_n 0, 1) := of_row (r := (57, .aload_n 0, 1)) DX6_feed_b0 27 rfl
theorem dX6_feed_58 : decode cX6_feed 58 = .ok (.getfield 10, 3) := of_row (r := (58, .getfield 10, 3)) DX6_feed_b0 28 rfl
theorem dX6_feed_61 : decode cX6_feed 61 = .ok (.getfield 95, 3) := of_row (r := (61, .getfield 95, 3)) DX6_feed_b0 29 rfl
theorem dX6_feed_64 : decode cX6_feed 64 = .ok (.ireturn, 1) := of_row (r := (64, .ireturn, 1)) DX6_feed_b0 30 rfl
set_option maxRecDepth 20000 in
theorem DX6_end_b0 : ([(0, .iload_n 1, 1), (1, .ifCond .lt 14, 3), (4, .iload_n 1, 1), (5, .aload_n 0, 1), (6, .getfield 10, 3), (9, .getfield 95, 3), (12, .if_icmp .le 5, 3), (15, .iconst (-1), 1), (16, .ireturn, 1), (17, .aload_n 0, 1), (18, .getfield 10, 3), (21, .iload_n 1, 1), (22, .putfield 95, 3), (25, .iload_n 1, 1), (26, .ireturn, 1)] : List (Nat × Instr × Nat)).all (fun r => decide (decode cX6_end r.1 = .ok r.2)) = true := by decide +kernel
theorem dX6_end_0 : decode cX6_end 0 = .ok (.iload_n 1, 1) := of_row (r := (0, .iload_n 1, 1)) DX6_end_b0 0 rfl
theorem dX6_end_1 : decode cX6_end 1 = .ok (.ifCond .lt 14, 3) := of_row (r := (1, .ifCond .lt 14, 3)) DX6_end_b0 1 rfl
theorem dX6_end_4 : decode cX6_end 4 = .ok (.iload_n 1, 1) := of_row (r := (4, .iload_n 1, 1)) DX6_end_b0 2 rfl
theorem dX6_end_5 : decode cX6_end 5 = .ok (.aload_n 0, 1) := of_row (r := (5, .aload_n 0, 1)) DX6_end_b0 3 rfl
theorem dX6_end_6 : decode cX6_end 6 = .ok (.getfield 10, 3) := of_row (r := (6, .getfield 10, 3)) DX6_end_b0 4 rfl
theorem dX6_end_9 : decode cX6_end 9 = .ok (.getfield 95, 3) := of_row (r := (9, .getfield 95, 3)) DX6_end_b0 5 rfl
theorem dX6_end_12 : decode cX6_end 12 = .ok (.if_icmp .le 5, 3) := of_row (r := (12, .if_icmp .le 5, 3)) DX6_end_b0 6 rfl
theorem dX6_end_15 : decode cX6_end 15 = .ok (.iconst (-1), 1) := of_row (r := (15, .iconst (-1), 1)) DX6_end_b0 7 rfl
theorem dX6_end_16 : decode cX6_end 16 = .ok (.ireturn, 1) := of_row (r := (16, .ireturn, 1)) DX6_end_b0 8 rfl
theorem dX6_end_17 : decode cX6_end 17 = .ok (.aload_n 0, 1) := of_row (r := (17, .aload_n 0, 1)) DX6_end_b0 9 rfl
theorem dX6_end_18 : decode cX6_end 18 = .ok (.getfield 10, 3) := of_row (r := (18, .getfield 10, 3)) DX6_end_b0 10 rfl
theorem dX6_end_21 : decode cX6_end 21 = .ok (.iload_n 1, 1) := of_row (r := (21, .iload_n 1, 1)) DX6_end_b0 11 rfl
theorem dX6_end_22 : decode cX6_end 22 = .ok (.putfield 95, 3) := of_row (r := (22, .putfield 95, 3)) DX6_end_b0 12 rfl
theorem dX6_end_25 : decode cX6_end 25 = .ok (.iload_n 1, 1) := of_row (r := (25, .iload_n 1, 1)) DX6_end_b0 13 rfl
theorem dX6_end_26 : decode cX6_end 26 = .ok (.ireturn, 1) := of_row (r := (26, .ireturn, 1)) DX6_end_b0 14 rfl
set_option maxRecDepth 20000 in
theorem DX6_text_b0 : ([(0, .aload_n 0, 1), (1, .getfield 99, 3), (4, .bipush 10, 2), (6, .if_icmp .lt 6, 3), (9, .bipush (-3), 2), (11, .ireturn, 1), (12, .aload_n 0, 1), (13, .getfield 21, 3), (16, .invokevirtual 102, 3), (19, .istore_n 1, 1), (20, .aload_n 0, 1), (21, .getfield 10, 3), (24, .iconst 0, 1), (25, .putfield 95, 3), (28, .iload_n 1, 1), (29, .ifCond .ne 14, 3), (32, .bipush (-100), 2), (34, .aload_n 0, 1), (35, .getfield 21, 3), (38, .getfield 106, 3), (41, .isub, 1), (42, .ireturn, 1), (43, .aload_n 0, 1), (44, .getfield 34, 3), (47, .aload_n 0, 1), (48, .getfield 99, 3), (51, .aload_n 0, 1), (52, .getfield 21, 3), (55, .invokevirtual 109, 3), (58, .aastore, 1), (59, .aload_n 0, 1), (60, .dup, 1), (61, .getfield 99, 3), (64, .dup_x1, 1), (65, .iconst 1, 1), (66, .iadd, 1), (67, .putfield 99, 3), (70, .ireturn, 1)] : List (Nat × Instr × Nat)).all (fun r => decide (decode cX6_text r.1 = .ok r.2)) = true := by decide +kernel
theorem dX6_text_0 : decode cX6_text 0 = .ok (.aload_n 0, 1) := of_row (r := (0, .aload_n 0, 1)) DX6_text_b0 0 rfl
theorem dX6_text_1 : decode cX6_text 1 = .ok (.getfield 99, 3) := of_row (r := (1, .getfield 99, 3)) DX6_text_b0 1 rfl
theorem dX6_text_4 : decode cX6_text 4 = .ok (.bipush 10, 2) := of_row (r := (4, .bipush 10, 2)) DX6_text_b0 2 rfl
theorem dX6_text_6 : decode cX6_text 6 = .ok (.if_icmp .lt 6, 3) := of_row (r := (6, .if_icmp .lt 6, 3)) DX6_text_b0 3 rfl
theorem dX6_text_9 : decode cX6_text 9 = .ok (.bipush (-3), 2) := of_row (r := (9, .bipush (-3), 2)) DX6_text_b0 4 rfl
theorem dX6_text_11 : decode cX6_text 11 = .ok (.ireturn, 1) := of_row (r := (11, .ireturn, 1)) DX6_text_b0 5 rfl
theorem dX6_text_12 : decode cX6_text 12 = .ok (.aload_n 0, 1) := of_row (r := (12, .aload_n 0, 1)) DX6_text_b0 6 rfl
theorem dX6_text_13 : decode cX6_text 13 = .ok (.getfield 21, 3) := of_row (r := (13, .getfield 21, 3)) DX6_text_b0 7 rfl
theorem dX6_text_16 : decode cX6_text 16 = .ok (.invokevirtual 102, 3) := of_row (r := (16, .invokevirtual 102, 3)) DX6_text_b0 8 rfl
theorem dX6_text_19 : decode cX6_text 19 = .ok (.istore_n 1, 1) := of_row (r := (19, .istore_n 1, 1)) DX6_text_b0 9 rfl
theorem dX6_text_20 : decode cX6_text 20 = .ok (.aload_n 0, 1) := of_row (r := (20, .aload_n 0, 1)) DX6_text_b0 10 rfl
theorem dX6_text_21 : decode cX6_text 21 = .ok (.getfield 10, 3) := of_row (r := (21, .getfield 10, 3)) DX6_text_b0 11 rfl
theorem dX6_text_24 : decode cX6_text 24 = .ok (.iconst 0, 1) := of_row (r := (24, .iconst 0, 1)) DX6_text_b0 12 rfl
theorem dX6_text_25 : decode cX6_text 25 = .ok (.putfield 95, 3) := of_row (r := (25, .putfield 95, 3)) DX6_text_b0 13 rfl
theorem dX6_text_28 : decode cX6_text 28 = .ok (.iload_n 1, 1) := of_row (r := (28, .iload_n 1, 1)) DX6_text_b0 14 rfl
theorem dX6_text_29 : decode cX6_text 29 = .ok (.ifCond .ne 14, 3) := of_row (r := (29, .ifCond .ne 14, 3)) DX6_text_b0 15 rfl
theorem dX6_text_32 : decode cX6_text 32 = .ok (.bipush (-100), 2) := of_row (r := (32, .bipush (-100), 2)) DX6_text_b0 16 rfl
theorem dX6_text_34 : decode cX6_text 34 = .ok (.aload_n 0, 1) := of_row (r := (34, .aload_n 0, 1)) DX6_text_b0 17 rfl
theorem dX6_text_35 : decode cX6_text 35 = .ok (.getfield 21, 3) := of_row (r := (35, .getfield 21, 3)) DX6_text_b0 18 rfl
theorem dX6_text_38 : decode cX6_text 38 = .ok (.getfield 106, 3) := of_row (r := (38, .getfield 106, 3)) DX6_text_b0 19 rfl
theorem dX6_text_41 : decode cX6_text 41 = .ok (.isub, 1) := of_row (r := (41, .isub, 1)) DX6_text_b0 20 rfl
theorem dX6_text_42 : decode cX6_text 42 = .ok (.ireturn, 1) := of_row (r := (42, .ireturn, 1)) DX6_text_b0 21 rfl
theorem dX6_text_43 : decode cX6_text 43 = .ok (.aload_n 0, 1) := of_row (r := (43, .aload_n 0, 1)) DX6_text_b0 22 rfl
theorem dX6_text_44 : decode cX6_text 44 = .ok (.getfield 34, 3) := of_row (r := (44, .getfield 34, 3)) DX6_text_b0 23 rfl
theorem dX6_text_47 : decode cX6_text 47 = .ok (.aload_n 0, 1) := of_row (r := (47, .aload_n 0, 1)) DX6_text_b0 24 rfl
theorem dX6_text_48 : decode cX6_text 48 = .ok (.getfield 99, 3) := of_row (r := (48, .getfield 99, 3)) DX6_text_b0 25 rfl
theorem dX6_text_51 : decode cX6_text 51 = .ok (.aload_n 0, 1) := of_row (r := (51, .aload_n 0, 1)) DX6_text_b0 26 rfl
theorem dX6_text_52 : decode cX6_text 52 = .ok (.getfield 21, 3) := of_row (r := (52, .getfield 21, 3)) DX6_text_b0 27 rfl
theorem dX6_text_55 : decode cX6_text 55 = .ok (.invokevirtual 109, 3) := of_row (r := (55, .invokevirtual 109, 3)) DX6_text_b0 28 rfl
theorem dX6_text_58 : decode cX6_text 58 = .ok (.aastore, 1) := of_row (r := (58, .aastore, 1)) DX6_text_b0 29 rfl
theorem dX6_text_59 : decode cX6_text 59 = .ok (.aload_n 0, 1) := of_row (r := (59, .aload_n 0, 1)) DX6_text_b0 30 rfl
theorem dX6_text_60 : decode cX6_text 60 = .ok (.dup, 1) := of_row (r := (60, .dup, 1)) DX6_text_b0 31 rfl
theorem dX6_text_61 : decode cX6_text 61 = .ok (.getfield 99, 3) := of_row (r := (61, .getfield 99, 3)) DX6_text_b0 32 rfl
theorem dX6_text_64 : decode cX6_text 64 = .ok (.dup_x1, 1) := of_row (r := (64, .dup_x1, 1)) DX6_text_b0 33 rfl
theorem dX6_text_65 : decode cX6_text 65 = .ok (.iconst 1, 1) := of_row (r := (65, .iconst 1, 1)) DX6_text_b0 34 rfl
theorem dX6_text_66 : decode cX6_text 66 = .ok (.iadd, 1) := of_row (r := (66, .iadd, 1)) DX6_text_b0 35 rfl
theorem dX6_text_67 : decode cX6_text 67 = .ok (.putfield 99, 3) := of_row (r := (67, .putfield 99, 3)) DX6_text_b0 36 rfl
theorem dX6_text_70 : decode cX6_text 70 = .ok (.ireturn, 1) := of_row (r := (70, .ireturn, 1)) DX6_text_b0 37 rfl
set_option maxRecDepth 20000 in
theorem DX6_statements_b0 : ([(0, .aload_n 0, 1), (1, .iload_n 1, 1), (2, .invokevirtual 113, 3), (5, .astore_n 2, 1), (6, .aload_n 2, 1), (7, .ifnonnull 7, 3), (10, .iconst (-1), 1), (11, .goto 8, 3), (14, .aload_n 2, 1), (15, .getfield 117, 3), (18, .arraylength, 1), (19, .ireturn, 1)] : List (Nat × Instr × Nat)).all (fun r => decide (decode cX6_statements r.1 = .ok r.2)) = true := by decide +kernel
theorem dX6_statements_0 : decode cX6_statements 0 = .ok (.aload_n 0, 1) := of_row (r := (0, .aload_n 0, 1)) DX6_statements_b0 0 rfl
theorem dX6_statements_1 : decode cX6_statements 1 = .ok (.iload_n 1, 1) := of_row (r := (1, .iload_n 1, 1)) DX6_statements_b0 1 rfl
theorem dX6_statements_2 : decode cX6_statements 2 = .ok (.invokevirtual 113, 3) := of_row (r := (2, .invokevirtual 113, 3)) DX6_statements_b0 2 rfl
theorem dX6_statements_5 : decode cX6_statements 5 = .ok (.astore_n 2, 1) := of_row (r := (5, .astore_n 2, 1)) DX6_statements_b0 3 rfl
theorem dX6_statements_6 : decode cX6_statements 6 = .ok (.aload_n 2, 1) := of_row (r := (6, .aload_n 2, 1)) DX6_statements_b0 4 rfl
theorem dX6_statements_7 : decode cX6_statements 7 = .ok (.ifnonnull 7, 3) := of_row (r := (7, .ifnonnull 7, 3)) DX6_statements_b0 5 rfl
theorem dX6_statements_10 : decode cX6_statements 10 = .ok (.iconst (-1), 1) := of_row (r := (10, .iconst (-1), 1)) DX6_statements_b0 6 rfl
theorem dX6_statements_11 : decode cX6_statements 11 = .ok (.goto 8, 3) := of_row (r := (11, .goto 8, 3)) DX6_statements_b0 7 rfl
theorem dX6_statements_14 : decode cX6_statements 14 = .ok (.aload_n 2, 1) := of_row (r := (14, .aload_n 2, 1)) DX6_statements_b0 8 rfl
theorem dX6_statements_15 : decode cX6_statements 15 = .ok (.getfield 117, 3) := of_row (r := (15, .getfield 117, 3)) DX6_statements_b0 9 rfl
theorem dX6_statements_18 : decode cX6_statements 18 = .ok (.arraylength, 1) := of_row (r := (18, .arraylength, 1)) DX6_statements_b0 10 rfl
theorem dX6_statements_19 : decode cX6_statements 19 = .ok (.ireturn, 1) := of_row (r := (19, .ireturn, 1)) DX6_statements_b0 11 rfl
set_option maxRecDepth 20000 in
theorem DX6_force_b0 : ([(0, .aload_n 0, 1), (1, .iload_n 1, 1), (2, .invokevirtual 113, 3), (5, .ifnull 18, 3), (8, .iload_n 2, 1), (9, .aload_n 0, 1), (10, .getfield 120, 3), (13, .if_icmp .lt 10, 3), (16, .iload_n 2, 1), (17, .sipush 1000, 3), (20, .if_icmp .le 5, 3), (23, .iconst (-1), 1), (24, .ireturn, 1), (25, .aload_n 0, 1), (26, .getfield 43, 3), (29, .invokevirtual 123, 3), (32, .istore_n 3, 1), (33, .iload_n 3, 1), (34, .ifCond .ge 6, 3), (37, .bipush (-3), 2), (39, .ireturn, 1), (40, .aload_n 0, 1), (41, .getfield 43, 3), (44, .iload_n 3, 1), (45, .iconst 0, 1), (46, .iload_n 1, 1), (47, .invokevirtual 127, 3), (50, .aload_n 0, 1), (51, .getfield 43, 3), (54, .iload_n 3, 1), (55, .iconst 1, 1), (56, .iload_n 2, 1), (57, .invokevirtual 127, 3), (60, .iconst 1, 1), (61, .ireturn, 1)] : List (Nat × Instr × Nat)).all (fun r => decide (decode cX6_force r.1 = .ok r.2)) = true := by decide +kernel
theorem dX6_force_0 : decode cX6_force 0 = .ok (.aload_n 0, 1) := of_row (r := (0, .aload_n 0, 1)) DX6_force_b0 0 rfl
theorem dX6_force_1 : decode cX6_force 1 = .ok (.iload_n 1, 1) := of_row (r := (1, .iload_n 1, 1)) DX6_force_b0 1 rfl
theorem dX6_force_2 : decode cX6_force 2 = .ok (.invokevirtual 113, 3) := of_row (r := (2, .invokevirtual 113, 3)) DX6_force_b0 2 rfl
theorem dX6_force_5 : decode cX6_force 5 = .ok (.ifnull 18, 3) := of_row (r := (5, .ifnull 18, 3)) DX6_force_b0 3 rfl
theorem dX6_force_8 : decode cX6_force 8 = .ok (.iload_n 2, 1) := of_row (r := (8, .iload_n 2, 1)) DX6_force_b0 4 rfl
theorem dX6_force_9 : decode cX6_force 9 = .ok (.aload_n 0, 1) := of_row (r := (9, .aload_n 0, 1)) DX6_force_b0 5 rfl
theorem dX6_force_10 : decode cX6_force 10 = .ok (.getfield 120, 3) := of_row (r := (10, .getfield 120, 3)) DX6_force_b0 6 rfl
theorem dX6_force_13 : decode cX6_force 13 = .ok (.if_icmp .lt 10, 3) := of_row (r := (13, .if_icmp .lt 10, 3)) DX6_force_b0 7 rfl
theorem dX6_force_16 : decode cX6_force 16 = .ok (.iload_n 2, 1) := of_row (r := (16, .iload_n 2, 1)) DX6_force_b0 8 rfl
theorem dX6_force_17 : decode cX6_force 17 = .ok (.sipush 1000, 3) := of_row (r := (17, .sipush 1000, 3)) DX6_force_b0 9 rfl
theorem dX6_force_20 : decode cX6_force 20 = .ok (.if_icmp .le 5, 3) := of_row (r := (20, .if_icmp .le 5, 3)) DX6_force_b0 10 rfl
theorem dX6_force_23 : decode cX6_force 23 = .ok (.iconst (-1), 1) := of_row (r := (23, .iconst (-1), 1)) DX6_force_b0 11 rfl
theorem dX6_force_24 : decode cX6_force 24 = .ok (.ireturn, 1) := of_row (r := (24, .ireturn, 1)) DX6_force_b0 12 rfl
theorem dX6_force_25 : decode cX6_force 25 = .ok (.aload_n 0, 1) := of_row (r := (25, .aload_n 0, 1)) DX6_force_b0 13 rfl
theorem dX6_force_26 : decode cX6_force 26 = .ok (.getfield 43, 3) := of_row (r := (26, .getfield 43, 3)) DX6_force_b0 14 rfl
theorem dX6_force_29 : decode cX6_force 29 = .ok (.invokevirtual 123, 3) := of_row (r := (29, .invokevirtual 123, 3)) DX6_force_b0 15 rfl
theorem dX6_force_32 : decode cX6_force 32 = .ok (.istore_n 3, 1) := of_row (r := (32, .istore_n 3, 1)) DX6_force_b0 16 rfl
theorem dX6_force_33 : decode cX6_force 33 = .ok (.iload_n 3, 1) := of_row (r := (33, .iload_n 3, 1)) DX6_force_b0 17 rfl
theorem dX6_force_34 : decode cX6_force 34 = .ok (.ifCond .ge 6, 3) := of_row (r := (34, .ifCond .ge 6, 3)) DX6_force_b0 18 rfl
theorem dX6_force_37 : decode cX6_force 37 = .ok (.bipush (-3), 2) := of_row (r := (37, .bipush (-3), 2)) DX6_force_b0 19 rfl
theorem dX6_force_39 : decode cX6_force 39 = .ok (.ireturn, 1) := of_row (r := (39, .ireturn, 1)) DX6_force_b0 20 rfl
theorem dX6_force_40 : decode cX6_force 40 = .ok (.aload_n 0, 1) := of_row (r := (40, .aload_n 0, 1)) DX6_force_b0 21 rfl
theorem dX6_force_41 : decode cX6_force 41 = .ok (.getfield 43, 3) := of_row (r := (41, .getfield 43, 3)) DX6_force_b0 22 rfl
theorem dX6_force_44 : decode cX6_force 44 = .ok (.iload_n 3, 1) := of_row (r := (44, .iload_n 3, 1)) DX6_force_b0 23 rfl
theorem dX6_force_45 : decode cX6_force 45 = .ok (.iconst 0, 1) := of_row (r := (45, .iconst 0, 1)) DX6_force_b0 24 rfl
theorem dX6_force_46 : decode cX6_force 46 = .ok (.iload_n 1, 1) := of_row (r := (46, .iload_n 1, 1)) DX6_force_b0 25 rfl
theorem dX6_force_47 : decode cX6_force 47 = .ok (.invokevirtual 127, 3) := of_row (r := (47, .invokevirtual 127, 3)) DX6_force_b0 26 rfl
