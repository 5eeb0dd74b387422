theorem dX6_force_50 : decode cX6_force 50 = .ok (.aload_n 0, 1) := of_row (r := (50, .aload_n 0, 1)) DX6_force_b0 27 rfl
theorem dX6_force_51 : decode cX6_force 51 = .ok (.getfield 43, 3) := of_row (r := (51, .getfield 43, 3)) DX6_force_b0 28 rfl
theorem dX6_force_54 : decode cX6_force 54 = .ok (.iload_n 3, 1) := of_row (r := (54, .iload_n 3, 1)) DX6_force_b0 29 rfl
theorem dX6_force_55 : decode cX6_force 55 = .ok (.iconst 1, 1) := of_row (r := (55, .iconst 1, 1)) DX6_force_b0 30 rfl
theorem dX6_force_56 : decode cX6_force 56 = .ok (.iload_n 2, 1) := of_row (r := (56, .iload_n 2, 1)) DX6_force_b0 31 rfl
theorem dX6_force_57 : decode cX6_force 57 = .ok (.invokevirtual 127, 3) := of_row (r := (57, .invokevirtual 127, 3)) DX6_force_b0 32 rfl
theorem dX6_force_60 : decode cX6_force 60 = .ok (.iconst 1, 1) := of_row (r := (60, .iconst 1, 1)) DX6_force_b0 33 rfl
theorem dX6_force_61 : decode cX6_force 61 = .ok (.ireturn, 1) := of_row (r := (61, .ireturn, 1)) DX6_force_b0 34 rfl
set_option maxRecDepth 20000 in
theorem DX6_inForce_b0 : ([(0, .iload_n 1, 1), (1, .ifCond .lt 10, 3), (4, .iload_n 1, 1), (5, .sipush 1000, 3), (8, .if_icmp .le 7, 3), (11, .iconst (-1), 1), (12, .goto 8, 3), (15, .aload_n 0, 1), (16, .iload_n 1, 1), (17, .invokevirtual 131, 3), (20, .ireturn, 1)] : List (Nat × Instr × Nat)).all (fun r => decide (decode cX6_inForce r.1 = .ok r.2)) = true := by decide +kernel
theorem dX6_inForce_0 : decode cX6_inForce 0 = .ok (.iload_n 1, 1) := of_row (r := (0, .iload_n 1, 1)) DX6_inForce_b0 0 rfl
theorem dX6_inForce_1 : decode cX6_inForce 1 = .ok (.ifCond .lt 10, 3) := of_row (r := (1, .ifCond .lt 10, 3)) DX6_inForce_b0 1 rfl
theorem dX6_inForce_4 : decode cX6_inForce 4 = .ok (.iload_n 1, 1) := of_row (r := (4, .iload_n 1, 1)) DX6_inForce_b0 2 rfl
theorem dX6_inForce_5 : decode cX6_inForce 5 = .ok (.sipush 1000, 3) := of_row (r := (5, .sipush 1000, 3)) DX6_inForce_b0 3 rfl
theorem dX6_inForce_8 : decode cX6_inForce 8 = .ok (.if_icmp .le 7, 3) := of_row (r := (8, .if_icmp .le 7, 3)) DX6_inForce_b0 4 rfl
theorem dX6_inForce_11 : decode cX6_inForce 11 = .ok (.iconst (-1), 1) := of_row (r := (11, .iconst (-1), 1)) DX6_inForce_b0 5 rfl
theorem dX6_inForce_12 : decode cX6_inForce 12 = .ok (.goto 8, 3) := of_row (r := (12, .goto 8, 3)) DX6_inForce_b0 6 rfl
theorem dX6_inForce_15 : decode cX6_inForce 15 = .ok (.aload_n 0, 1) := of_row (r := (15, .aload_n 0, 1)) DX6_inForce_b0 7 rfl
theorem dX6_inForce_16 : decode cX6_inForce 16 = .ok (.iload_n 1, 1) := of_row (r := (16, .iload_n 1, 1)) DX6_inForce_b0 8 rfl
theorem dX6_inForce_17 : decode cX6_inForce 17 = .ok (.invokevirtual 131, 3) := of_row (r := (17, .invokevirtual 131, 3)) DX6_inForce_b0 9 rfl
theorem dX6_inForce_20 : decode cX6_inForce 20 = .ok (.ireturn, 1) := of_row (r := (20, .ireturn, 1)) DX6_inForce_b0 10 rfl
set_option maxRecDepth 20000 in
theorem DX6_would_b0 : ([(0, .aload_n 0, 1), (1, .iload_n 1, 1), (2, .invokevirtual 113, 3), (5, .astore 4, 2), (7, .aload 4, 2), (9, .ifnull 21, 3), (12, .aload_n 0, 1), (13, .iload_n 2, 1), (14, .invokevirtual 135, 3), (17, .ifCond .eq 13, 3), (20, .iload_n 3, 1), (21, .ifCond .lt 9, 3), (24, .iload_n 3, 1), (25, .ldc 138, 2), (27, .if_icmp .le 5, 3), (30, .iconst (-1), 1), (31, .ireturn, 1), (32, .aload_n 0, 1), (33, .iload_n 2, 1), (34, .aload_n 0, 1), (35, .aload_n 0, 1), (36, .getfield 65, 3), (39, .iload_n 2, 1), (40, .iconst 0, 1), (41, .invokevirtual 139, 3), (44, .invokevirtual 143, 3), (47, .iload_n 3, 1), (48, .i2l, 1), (49, .lconst 0, 1), (50, .invokevirtual 147, 3), (53, .aload_n 0, 1), (54, .getfield 28, 3), (57, .aload 4, 2), (59, .invokevirtual 151, 3), (62, .istore 5, 2), (64, .iload 5, 2), (66, .ifCond .ge 8, 3), (69, .bipush (-2), 2), (71, .goto 5, 3), (74, .iload 5, 2), (76, .ireturn, 1)] : List (Nat × Instr × Nat)).all (fun r => decide (decode cX6_would r.1 = .ok r.2)) = true := by decide +kernel
theorem dX6_would_0 : decode cX6_would 0 = .ok (.aload_n 0, 1) := of_row (r := (0, .aload_n 0, 1)) DX6_would_b0 0 rfl
theorem dX6_would_1 : decode cX6_would 1 = .ok (.iload_n 1, 1) := of_row (r := (1, .iload_n 1, 1)) DX6_would_b0 1 rfl
theorem dX6_would_2 : decode cX6_would 2 = .ok (.invokevirtual 113, 3) := of_row (r := (2, .invokevirtual 113, 3)) DX6_would_b0 2 rfl
theorem dX6_would_5 : decode cX6_would 5 = .ok (.astore 4, 2) := of_row (r := (5, .astore 4, 2)) DX6_would_b0 3 rfl
theorem dX6_would_7 : decode cX6_would 7 = .ok (.aload 4, 2) := of_row (r := (7, .aload 4, 2)) DX6_would_b0 4 rfl
theorem dX6_would_9 : decode cX6_would 9 = .ok (.ifnull 21, 3) := of_row (r := (9, .ifnull 21, 3)) DX6_would_b0 5 rfl
theorem dX6_would_12 : decode cX6_would 12 = .ok (.aload_n 0, 1) := of_row (r := (12, .aload_n 0, 1)) DX6_would_b0 6 rfl
theorem dX6_would_13 : decode cX6_would 13 = .ok (.iload_n 2, 1) := of_row (r := (13, .iload_n 2, 1)) DX6_would_b0 7 rfl
theorem dX6_would_14 : decode cX6_would 14 = .ok (.invokevirtual 135, 3) := of_row (r := (14, .invokevirtual 135, 3)) DX6_would_b0 8 rfl
theorem dX6_would_17 : decode cX6_would 17 = .ok (.ifCond .eq 13, 3) := of_row (r := (17, .ifCond .eq 13, 3)) DX6_would_b0 9 rfl
theorem dX6_would_20 : decode cX6_would 20 = .ok (.iload_n 3, 1) := of_row (r := (20, .iload_n 3, 1)) DX6_would_b0 10 rfl
theorem dX6_would_21 : decode cX6_would 21 = .ok (.ifCond .lt 9, 3) := of_row (r := (21, .ifCond .lt 9, 3)) DX6_would_b0 11 rfl
theorem dX6_would_24 : decode cX6_would 24 = .ok (.iload_n 3, 1) := of_row (r := (24, .iload_n 3, 1)) DX6_would_b0 12 rfl
theorem dX6_would_25 : decode cX6_would 25 = .ok (.ldc 138, 2) := of_row (r := (25, .ldc 138, 2)) DX6_would_b0 13 rfl
theorem dX6_would_27 : decode cX6_would 27 = .ok (.if_icmp .le 5, 3) := of_row (r := (27, .if_icmp .le 5, 3)) DX6_would_b0 14 rfl
theorem dX6_would_30 : decode cX6_would 30 = .ok (.iconst (-1), 1) := of_row (r := (30, .iconst (-1), 1)) DX6_would_b0 15 rfl
theorem dX6_would_31 : decode cX6_would 31 = .ok (.ireturn, 1) := of_row (r := (31, .ireturn, 1)) DX6_would_b0 16 rfl
theorem dX6_would_32 : decode cX6_would 32 = .ok (.aload_n 0, 1) := of_row (r := (32, .aload_n 0, 1)) DX6_would_b0 17 rfl
theorem dX6_would_33 : decode cX6_would 33 = .ok (.iload_n 2, 1) := of_row (r := (33, .iload_n 2, 1)) DX6_would_b0 18 rfl
theorem dX6_would_34 : decode cX6_would 34 = .ok (.aload_n 0, 1) := of_row (r := (34, .aload_n 0, 1)) DX6_would_b0 19 rfl
theorem dX6_would_35 : decode cX6_would 35 = .ok (.aload_n 0, 1) := of_row (r := (35, .aload_n 0, 1)) DX6_would_b0 20 rfl
theorem dX6_would_36 : decode cX6_would 36 = .ok (.getfield 65, 3) := of_row (r := (36, .getfield 65, 3)) DX6_would_b0 21 rfl
theorem dX6_would_39 : decode cX6_would 39 = .ok (.iload_n 2, 1) := of_row (r := (39, .iload_n 2, 1)) DX6_would_b0 22 rfl
theorem dX6_would_40 : decode cX6_would 40 = .ok (.iconst 0, 1) := of_row (r := (40, .iconst 0, 1)) DX6_would_b0 23 rfl
theorem dX6_would_41 : decode cX6_would 41 = .ok (.invokevirtual 139, 3) := of_row (r := (41, .invokevirtual 139, 3)) DX6_would_b0 24 rfl
theorem dX6_would_44 : decode cX6_would 44 = .ok (.invokevirtual 143, 3) := of_row (r := (44, .invokevirtual 143, 3)) DX6_would_b0 25 rfl
theorem dX6_would_47 : decode cX6_would 47 = .ok (.iload_n 3, 1) := of_row (r := (47, .iload_n 3, 1)) DX6_would_b0 26 rfl
theorem dX6_would_48 : decode cX6_would 48 = .ok (.i2l, 1) := of_row (r := (48, .i2l, 1)) DX6_would_b0 27 rfl
theorem dX6_would_49 : decode cX6_would 49 = .ok (.lconst 0, 1) := of_row (r := (49, .lconst 0, 1)) DX6_would_b0 28 rfl
theorem dX6_would_50 : decode cX6_would 50 = .ok (.invokevirtual 147, 3) := of_row (r := (50, .invokevirtual 147, 3)) DX6_would_b0 29 rfl
theorem dX6_would_53 : decode cX6_would 53 = .ok (.aload_n 0, 1) := of_row (r := (53, .aload_n 0, 1)) DX6_would_b0 30 rfl
theorem dX6_would_54 : decode cX6_would 54 = .ok (.getfield 28, 3) := of_row (r := (54, .getfield 28, 3)) DX6_would_b0 31 rfl
theorem dX6_would_57 : decode cX6_would 57 = .ok (.aload 4, 2) := of_row (r := (57, .aload 4, 2)) DX6_would_b0 32 rfl
theorem dX6_would_59 : decode cX6_would 59 = .ok (.invokevirtual 151, 3) := of_row (r := (59, .invokevirtual 151, 3)) DX6_would_b0 33 rfl
theorem dX6_would_62 : decode cX6_would 62 = .ok (.istore 5, 2) := of_row (r := (62, .istore 5, 2)) DX6_would_b0 34 rfl
theorem dX6_would_64 : decode cX6_would 64 = .ok (.iload 5, 2) := of_row (r := (64, .iload 5, 2)) DX6_would_b0 35 rfl
theorem dX6_would_66 : decode cX6_would 66 = .ok (.ifCond .ge 8, 3) := of_row (r := (66, .ifCond .ge 8, 3)) DX6_would_b0 36 rfl
theorem dX6_would_69 : decode cX6_would 69 = .ok (.bipush (-2), 2) := of_row (r := (69, .bipush (-2), 2)) DX6_would_b0 37 rfl
theorem dX6_would_71 : decode cX6_would 71 = .ok (.goto 5, 3) := of_row (r := (71, .goto 5, 3)) DX6_would_b0 38 rfl
theorem dX6_would_74 : decode cX6_would 74 = .ok (.iload 5, 2) := of_row (r := (74, .iload 5, 2)) DX6_would_b0 39 rfl
theorem dX6_would_76 : decode cX6_would 76 = .ok (.ireturn, 1) := of_row (r := (76, .ireturn, 1)) DX6_would_b0 40 rfl
set_option maxRecDepth 20000 in
theorem DX6_textOf_b0 : ([(0, .iload_n 1, 1), (1, .ifCond .lt 20, 3), (4, .iload_n 1, 1), (5, .aload_n 0, 1), (6, .getfield 99, 3), (9, .if_icmp .ge 12, 3), (12, .iload_n 1, 1), (13, .aload_n 0, 1), (14, .getfield 34, 3), (17, .arraylength, 1), (18, .if_icmp .lt 7, 3), (21, .aconst_null, 1), (22, .goto 9, 3), (25, .aload_n 0, 1), (26, .getfield 34, 3), (29, .iload_n 1, 1), (30, .aaload, 1), (31, .areturn, 1)] : List (Nat × Instr × Nat)).all (fun r => decide (decode cX6_textOf r.1 = .ok r.2)) = true := by decide +kernel
theorem dX6_textOf_0 : decode cX6_textOf 0 = .ok (.iload_n 1, 1) := of_row (r := (0, .iload_n 1, 1)) DX6_textOf_b0 0 rfl
theorem dX6_textOf_1 : decode cX6_textOf 1 = .ok (.ifCond .lt 20, 3) := of_row (r := (1, .ifCond .lt 20, 3)) DX6_textOf_b0 1 rfl
theorem dX6_textOf_4 : decode cX6_textOf 4 = .ok (.iload_n 1, 1) := of_row (r := (4, .iload_n 1, 1)) DX6_textOf_b0 2 rfl
theorem dX6_textOf_5 : decode cX6_textOf 5 = .ok (.aload_n 0, 1) := of_row (r := (5, .aload_n 0, 1)) DX6_textOf_b0 3 rfl
theorem dX6_textOf_6 : decode cX6_textOf 6 = .ok (.getfield 99, 3) := of_row (r := (6, .getfield 99, 3)) DX6_textOf_b0 4 rfl
theorem dX6_textOf_9 : decode cX6_textOf 9 = .ok (.if_icmp .ge 12, 3) := of_row (r := (9, .if_icmp .ge 12, 3)) DX6_textOf_b0 5 rfl
theorem dX6_textOf_12 : decode cX6_textOf 12 = .ok (.iload_n 1, 1) := of_row (r := (12, .iload_n 1, 1)) DX6_textOf_b0 6 rfl
theorem dX6_textOf_13 : decode cX6_textOf 13 = .ok (.aload_n 0, 1) := of_row (r := (13, .aload_n 0, 1)) DX6_textOf_b0 7 rfl
theorem dX6_textOf_14 : decode cX6_textOf 14 = .ok (.getfield 34, 3) := of_row (r := (14, .getfield 34, 3)) DX6_textOf_b0 8 rfl
theorem dX6_textOf_17 : decode cX6_textOf 17 = .ok (.arraylength, 1) := of_row (r := (17, .arraylength, 1)) DX6_textOf_b0 9 rfl
theorem dX6_textOf_18 : decode cX6_textOf 18 = .ok (.if_icmp .lt 7, 3) := of_row (r := (18, .if_icmp .lt 7, 3)) DX6_textOf_b0 10 rfl
theorem dX6_textOf_21 : decode cX6_textOf 21 = .ok (.aconst_null, 1) := of_row (r := (21, .aconst_null, 1)) DX6_textOf_b0 11 rfl
theorem dX6_textOf_22 : decode cX6_textOf 22 = .ok (.goto 9, 3) := of_row (r := (22, .goto 9, 3)) DX6_textOf_b0 12 rfl
theorem dX6_textOf_25 : decode cX6_textOf 25 = .ok (.aload_n 0, 1) := of_row (r := (25, .aload_n 0, 1)) DX6_textOf_b0 13 rfl
theorem dX6_textOf_26 : decode cX6_textOf 26 = .ok (.getfield 34, 3) := of_row (r := (26, .getfield 34, 3)) DX6_textOf_b0 14 rfl
theorem dX6_textOf_29 : decode cX6_textOf 29 = .ok (.iload_n 1, 1) := of_row (r := (29, .iload_n 1, 1)) DX6_textOf_b0 15 rfl
theorem dX6_textOf_30 : decode cX6_textOf 30 = .ok (.aaload, 1) := of_row (r := (30, .aaload, 1)) DX6_textOf_b0 16 rfl
theorem dX6_textOf_31 : decode cX6_textOf 31 = .ok (.areturn, 1) := of_row (r := (31, .areturn, 1)) DX6_textOf_b0 17 rfl
set_option maxRecDepth 20000 in
theorem DX6_textInForce_b0 : ([(0, .aload_n 0, 1), (1, .getfield 43, 3), (4, .getfield 155, 3), (7, .iconst 1, 1), (8, .isub, 1), (9, .istore_n 2, 1), (10, .iload_n 2, 1), (11, .ifCond .lt 32, 3), (14, .aload_n 0, 1), (15, .getfield 43, 3), (18, .iload_n 2, 1), (19, .iconst 1, 1), (20, .invokevirtual 139, 3), (23, .iload_n 1, 1), (24, .if_icmp .gt 13, 3), (27, .aload_n 0, 1), (28, .getfield 43, 3), (31, .iload_n 2, 1), (32, .iconst 0, 1), (33, .invokevirtual 139, 3), (36, .ireturn, 1), (37, .iinc 2 (-1), 3), (40, .goto (-30), 3), (43, .iconst (-1), 1), (44, .ireturn, 1)] : List (Nat × Instr × Nat)).all (fun r => decide (decode cX6_textInForce r.1 = .ok r.2)) = true := by decide +kernel
theorem dX6_textInForce_0 : decode cX6_textInForce 0 = .ok (.aload_n 0, 1) := of_row (r := (0, .aload_n 0, 1)) DX6_textInForce_b0 0 rfl
theorem dX6_textInForce_1 : decode cX6_textInForce 1 = .ok (.getfield 43, 3) := of_row (r := (1, .getfield 43, 3)) DX6_textInForce_b0 1 rfl
theorem dX6_textInForce_4 : decode cX6_textInForce 4 = .ok (.getfield 155, 3) := of_row (r := (4, .getfield 155, 3)) DX6_textInForce_b0 2 rfl
theorem dX6_textInForce_7 : decode cX6_textInForce 7 = .ok (.iconst 1, 1) := of_row (r := (7, .iconst 1, 1)) DX6_textInForce_b0 3 rfl
theorem dX6_textInForce_8 : decode cX6_textInForce 8 = .ok (.isub, 1) := of_row (r := (8, .isub, 1)) DX6_textInForce_b0 4 rfl
theorem dX6_textInForce_9 : decode cX6_textInForce 9 = .ok (.istore_n 2, 1) := of_row (r := (9, .istore_n 2, 1)) DX6_textInForce_b0 5 rfl
theorem dX6_textInForce_10 : decode cX6_textInForce 10 = .ok (.iload_n 2, 1) := of_row (r := (10, .iload_n 2, 1)) DX6_textInForce_b0 6 rfl
theorem dX6_textInForce_11 : decode cX6_textInForce 11 = .ok (.ifCond .lt 32, 3) := of_row (r := (11, .ifCond .lt 32, 3)) DX6_textInForce_b0 7 rfl
theorem dX6_textInForce_14 : decode cX6_textInForce 14 = .ok (.aload_n 0, 1) := of_row (r := (14, .aload_n 0, 1)) DX6_textInForce_b0 8 rfl
theorem dX6_textInForce_15 : decode cX6_textInForce 15 = .ok (.getfield 43, 3) := of_row (r := (15, .getfield 43, 3)) DX6_textInForce_b0 9 rfl
theorem dX6_textInForce_18 : decode cX6_textInForce 18 = .ok (.iload_n 2, 1) := of_row (r := (18, .iload_n 2, 1)) DX6_textInForce_b0 10 rfl
theorem dX6_textInForce_19 : decode cX6_textInForce 19 = .ok (.iconst 1, 1) := of_row (r := (19, .iconst 1, 1)) DX6_textInForce_b0 11 rfl
theorem dX6_textInForce_20 : decode cX6_textInForce 20 = .ok (.invokevirtual 139, 3) := of_row (r := (20, .invokevirtual 139, 3)) DX6_textInForce_b0 12 rfl
theorem dX6_textInForce_23 : decode cX6_textInForce 23 = .ok (.iload_n 1, 1) := of_row (r := (23, .iload_n 1, 1)) DX6_textInForce_b0 13 rfl
theorem dX6_textInForce_24 : decode cX6_textInForce 24 = .ok (.if_icmp .gt 13, 3) := of_row (r := (24, .if_icmp .gt 13, 3)) DX6_textInForce_b0 14 rfl
theorem dX6_textInForce_27 : decode cX6_textInForce 27 = .ok (.aload_n 0, 1) := of_row (r := (27, .aload_n 0, 1)) DX6_textInForce_b0 15 rfl
theorem dX6_textInForce_28 : decode cX6_textInForce 28 = .ok (.getfield 43, 3) := of_row (r := (28, .getfield 43, 3)) DX6_textInForce_b0 16 rfl
theorem dX6_textInForce_31 : decode cX6_textInForce 31 = .ok (.iload_n 2, 1) := of_row (r := (31, .iload_n 2, 1)) DX6_textInForce_b0 17 rfl
theorem dX6_textInForce_32 : decode cX6_textInForce 32 = .ok (.iconst 0, 1) := of_row (r := (32, .iconst 0, 1)) DX6_textInForce_b0 18 rfl
theorem dX6_textInForce_33 : decode cX6_textInForce 33 = .ok (.invokevirtual 139, 3) := of_row (r := (33, .invokevirtual 139, 3)) DX6_textInForce_b0 19 rfl
theorem dX6_textInForce_36 : decode cX6_textInForce 36 = .ok (.ireturn, 1) := of_row (r := (36, .ireturn, 1)) DX6_textInForce_b0 20 rfl
theorem dX6_textInForce_37 : decode cX6_textInForce 37 = .ok (.iinc 2 (-1), 3) := of_row (r := (37, .iinc 2 (-1), 3)) DX6_textInForce_b0 21 rfl
theorem dX6_textInForce_40 : decode cX6_textInForce 40 = .ok (.goto (-30), 3) := of_row (r := (40, .goto (-30), 3)) DX6_textInForce_b0 22 rfl
theorem dX6_textInForce_43 : decode cX6_textInForce 43 = .ok (.iconst (-1), 1) := of_row (r := (43, .iconst (-1), 1)) DX6_textInForce_b0 23 rfl
theorem dX6_textInForce_44 : decode cX6_textInForce 44 = .ok (.ireturn, 1) := of_row (r := (44, .ireturn, 1)) DX6_textInForce_b0 24 rfl
set_option maxRecDepth 20000 in
theorem DX6_tellWeigher_b0 : ([(0, .aload_n 0, 1), (1, .getfield 28, 3), (4, .bipush 11, 2), (6, .aload_n 0, 1), (7, .getfield 65, 3), (10, .iload_n 1, 1), (11, .iconst 3, 1), (12, .invokevirtual 139, 3), (15, .i2l, 1), (16, .invokevirtual 158, 3), (19, .aload_n 0, 1), (20, .getfield 28, 3), (23, .bipush 12, 2), (25, .lload_n 2, 1), (26, .invokevirtual 158, 3), (29, .aload_n 0, 1), (30, .getfield 28, 3), (33, .bipush 13, 2), (35, .aload_n 0, 1), (36, .getfield 120, 3), (39, .aload_n 0, 1), (40, .getfield 65, 3), (43, .iload_n 1, 1), (44, .iconst 4, 1), (45, .invokevirtual 139, 3), (48, .isub, 1), (49, .i2l, 1), (50, .invokevirtual 158, 3), (53, .aload_n 0, 1), (54, .getfield 28, 3), (57, .bipush 14, 2), (59, .aload_n 0, 1), (60, .getfield 65, 3), (63, .iload_n 1, 1), (64, .iconst 1, 1), (65, .invokevirtual 139, 3), (68, .i2l, 1), (69, .invokevirtual 158, 3), (72, .aload_n 0, 1), (73, .getfield 28, 3), (76, .bipush 15, 2), (78, .lload 4, 2), (80, .invokevirtual 158, 3), (83, .aload_n 0, 1), (84, .getfield 28, 3), (87, .bipush 16, 2), (89, .aload_n 0, 1), (90, .getfield 120, 3), (93, .i2l, 1), (94, .invokevirtual 158, 3), (97, .aload_n 0, 1), (98, .getfield 28, 3), (101, .bipush 17, 2), (103, .aload_n 0, 1), (104, .getfield 120, 3), (107, .iconst 2, 1), (108, .idiv, 1), (109, .i2l, 1), (110, .invokevirtual 158, 3), (113, .aload_n 0, 1)] : List (Nat × Instr × Nat)).all (fun r => decide (decode cX6_tellWeigher r.1 = .ok r.2)) = true := by decide +kernel
theorem dX6_tellWeigher_0 : decode cX6_tellWeigher 0 = .ok (.aload_n 0, 1) := of_row (r := (0, .aload_n 0, 1)) DX6_tellWeigher_b0 0 rfl
theorem dX6_tellWeigher_1 : decode cX6_tellWeigher 1 = .ok (.getfield 28, 3) := of_row (r := (1, .getfield 28, 3)) DX6_tellWeigher_b0 1 rfl
theorem dX6_tellWeigher_4 : decode cX6_tellWeigher 4 = .ok (.bipush 11, 2) := of_row (r := (4, .bipush 11, 2)) DX6_tellWeigher_b0 2 rfl
theorem dX6_tellWeigher_6 : decode cX6_tellWeigher 6 = .ok (.aload_n 0, 1) := of_row (r := (6, .aload_n 0, 1)) DX6_tellWeigher_b0 3 rfl
theorem dX6_tellWeigher_7 : decode cX6_tellWeigher 7 = .ok (.getfield 65, 3) := of_row (r := (7, .getfield 65, 3)) DX6_tellWeigher_b0 4 rfl
theorem dX6_tellWeigher_10 : decode cX6_tellWeigher 10 = .ok (.iload_n 1, 1) := of_row (r := (10, .iload_n 1, 1)) DX6_tellWeigher_b0 5 rfl
theorem dX6_tellWeigher_11 : decode cX6_tellWeigher 11 = .ok (.iconst 3, 1) := of_row (r := (11, .iconst 3, 1)) DX6_tellWeigher_b0 6 rfl
theorem dX6_tellWeigher_12 : decode cX6_tellWeigher 12 = .ok (.invokevirtual 139, 3) := of_row (r := (12, .invokevirtual 139, 3)) DX6_tellWeigher_b0 7 rfl
theorem dX6_tellWeigher_15 : decode cX6_tellWeigher 15 = .ok (.i2l, 1) := of_row (r := (15, .i2l, 1)) DX6_tellWeigher_b0 8 rfl
theorem dX6_tellWeigher_16 : decode cX6_tellWeigher 16 = .ok (.invokevirtual 158, 3) := of_row (r := (16, .invokevirtual 158, 3)) DX6_tellWeigher_b0 9 rfl
theorem dX6_tellWeigher_19 : decode cX6_tellWeigher 19 = .ok (.aload_n 0, 1) := of_row (r := (19, .aload_n 0, 1)) DX6_tellWeigher_b0 10 rfl
theorem dX6_tellWeigher_20 : decode cX6_tellWeigher 20 = .ok (.getfield 28, 3) := of_row (r := (20, .getfield 28, 3)) DX6_tellWeigher_b0 11 rfl
theorem dX6_tellWeigher_23 : decode cX6_tellWeigher 23 = .ok (.bipush 12, 2) := of_row (r := (23, .bipush 12, 2)) DX6_tellWeigher_b0 12 rfl
theorem dX6_tellWeigher_25 : decode cX6_tellWeigher 25 = .ok (.lload_n 2, 1) := of_row (r := (25, .lload_n 2, 1)) DX6_tellWeigher_b0 13 rfl
theorem dX6_tellWeigher_26 : decode cX6_tellWeigher 26 = .ok (.invokevirtual 158, 3) := of_row (r := (26, .invokevirtual 158, 3)) DX6_tellWeigher_b0 14 rfl
theorem dX6_tellWeigher_29 : decode cX6_tellWeigher 29 = .ok (.aload_n 0, 1) := of_row (r := (29, .aload_n 0, 1)) DX6_tellWeigher_b0 15 rfl
theorem dX6_tellWeigher_30 : decode cX6_tellWeigher 30 = .ok (.getfield 28, 3) := of_row (r := (30, .getfield 28, 3)) DX6_tellWeigher_b0 16 rfl
theorem dX6_tellWeigher_33 : decode cX6_tellWeigher 33 = .ok (.bipush 13, 2) := of_row (r := (33, .bipush 13, 2)) DX6_tellWeigher_b0 17 rfl
theorem dX6_tellWeigher_35 : decode cX6_tellWeigher 35 = .ok (.aload_n 0, 1) := of_row (r := (35, .aload_n 0, 1)) DX6_tellWeigher_b0 18 rfl
theorem dX6_tellWeigher_36 : decode cX6_tellWeigher 36 = .ok (.getfield 120, 3) := of_row (r := (36, .getfield 120, 3)) DX6_tellWeigher_b0 19 rfl
theorem dX6_tellWeigher_39 : decode cX6_tellWeigher 39 = .ok (.aload_n 0, 1) := of_row (r := (39, .aload_n 0, 1)) DX6_tellWeigher_b0 20 rfl
theorem dX6_tellWeigher_40 : decode cX6_tellWeigher 40 = .ok (.getfield 65, 3) := of_row (r := (40, .getfield 65, 3)) DX6_tellWeigher_b0 21 rfl
theorem dX6_tellWeigher_43 : decode cX6_tellWeigher 43 = .ok (.iload_n 1, 1) := of_row (r := (43, .iload_n 1, 1)) DX6_tellWeigher_b0 22 rfl
theorem dX6_tellWeigher_44 : decode cX6_tellWeigher 44 = .ok (.iconst 4, 1) := of_row (r := (44, .iconst 4, 1)) DX6_tellWeigher_b0 23 rfl
theorem dX6_tellWeigher_45 : decode cX6_tellWeigher 45 = .ok (.invokevirtual 139, 3) := of_row (r := (45, .invokevirtual 139, 3)) DX6_tellWeigher_b0 24 rfl
theorem dX6_tellWeigher_48 : decode cX6_tellWeigher 48 = .ok (.isub, 1) := of_row (r := (48, .isub, 1)) DX6_tellWeigher_b0 25 rfl
theorem dX6_tellWeigher_49 : decode cX6_tellWeigher 49 = .ok (.i2l, 1) := of_row (r := (49, .i2l, 1)) DX6_tellWeigher_b0 26 rfl
theorem dX6_tellWeigher_50 : decode cX6_tellWeigher 50 = .ok (.invokevirtual 158, 3) := of_row (r := (50, .invokevirtual 158, 3)) DX6_tellWeigher_b0 27 rfl
theorem dX6_tellWeigher_53 : decode cX6_tellWeigher 53 = .ok (.aload_n 0, 1) := of_row (r := (53, .aload_n 0, 1)) DX6_tellWeigher_b0 28 rfl
theorem dX6_tellWeigher_54 : decode cX6_tellWeigher 54 = .ok (.getfield 28, 3) := of_row (r := (54, .getfield 28, 3)) DX6_tellWeigher_b0 29 rfl
theorem dX6_tellWeigher_57 : decode cX6_tellWeigher 57 = .ok (.bipush 14, 2) := of_row (r := (57, .bipush 14, 2)) DX6_tellWeigher_b0 30 rfl
theorem dX6_tellWeigher_59 : decode cX6_tellWeigher 59 = .ok (.aload_n 0, 1) := of_row (r := (59, .aload_n 0, 1)) DX6_tellWeigher_b0 31 rfl
theorem dX6_tellWeigher_60 : decode cX6_tellWeigher 60 = .ok (.getfield 65, 3) := of_row (r := (60, .getfield 65, 3)) DX6_tellWeigher_b0 32 rfl
theorem dX6_tellWeigher_63 : decode cX6_tellWeigher 63 = .ok (.iload_n 1, 1) := of_row (r := (63, .iload_n 1, 1)) DX6_tellWeigher_b0 33 rfl
theorem dX6_tellWeigher_64 : decode cX6_tellWeigher 64 = .ok (.iconst 1, 1) := of_row (r := (64, .iconst 1, 1)) DX6_tellWeigher_b0 34 rfl
theorem dX6_tellWeigher_65 : decode cX6_tellWeigher 65 = .ok (.invokevirtual 139, 3) := of_row (r := (65, .invokevirtual 139, 3)) DX6_tellWeigher_b0 35 rfl
theorem dX6_tellWeigher_68 : decode cX6_tellWeigher 68 = .ok (.i2l, 1) := of_row (r := (68, .i2l, 1)) DX6_tellWeigher_b0 36 rfl
theorem dX6_tellWeigher_69 : decode cX6_tellWeigher 69 = .ok (.invokevirtual 158, 3) := of_row (r := (69, .invokevirtual 158, 3)) DX6_tellWeigher_b0 37 rfl
theorem dX6_tellWeigher_72 : decode cX6_tellWeigher 72 = .ok (.aload_n 0, 1) := of_row (r := (72, .aload_n 0, 1)) DX6_tellWeigher_b0 38 rfl
theorem dX6_tellWeigher_73 : decode cX6_tellWeigher 73 = .ok (.getfield 28, 3) := of_row (r := (73, .getfield 28, 3)) DX6_tellWeigher_b0 39 rfl
theorem dX6_tellWeigher_76 : decode cX6_tellWeigher 76 = .ok (.bipush 15, 2) := of_row (r := (76, .bipush 15, 2)) DX6_tellWeigher_b0 40 rfl
theorem dX6_tellWeigher_78 : decode cX6_tellWeigher 78 = .ok (.lload 4, 2) := of_row (r := (78, .lload 4, 2)) DX6_tellWeigher_b0 41 rfl
theorem dX6_tellWeigher_80 : decode cX6_tellWeigher 80 = .ok (.invokevirtual 158, 3) := of_row (r := (80, .invokevirtual 158, 3)) DX6_tellWeigher_b0 42 rfl
theorem dX6_tellWeigher_83 : decode cX6_tellWeigher 83 = .ok (.aload_n 0, 1) := of_row (r := (83, .aload_n 0, 1)) DX6_tellWeigher_b0 43 rfl
theorem dX6_tellWeigher_84 : decode cX6_tellWeigher 84 = .ok (.getfield 28, 3) := of_row (r := (84, .getfield 28, 3)) DX6_tellWeigher_b0 44 rfl
theorem dX6_tellWeigher_87 : decode cX6_tellWeigher 87 = .ok (.bipush 16, 2) := of_row (r := (87, .bipush 16, 2)) DX6_tellWeigher_b0 45 rfl
theorem dX6_tellWeigher_89 : decode cX6_tellWeigher 89 = .ok (.aload_n 0, 1) := of_row (r := (89, .aload_n 0, 1)) DX6_tellWeigher_b0 46 rfl
theorem dX6_tellWeigher_90 : decode cX6_tellWeigher 90 = .ok (.getfield 120, 3) := of_row (r := (90, .getfield 120, 3)) DX6_tellWeigher_b0 47 rfl
theorem dX6_tellWeigher_93 : decode cX6_tellWeigher 93 = .ok (.i2l, 1) := of_row (r := (93, .i2l, 1)) DX6_tellWeigher_b0 48 rfl
theorem dX6_tellWeigher_94 : decode cX6_tellWeigher 94 = .ok (.invokevirtual 158, 3) := of_row (r := (94, .invokevirtual 158, 3)) DX6_tellWeigher_b0 49 rfl
theorem dX6_tellWeigher_97 : decode cX6_tellWeigher 97 = .ok (.aload_n 0, 1) := of_row (r := (97, .aload_n 0, 1)) DX6_tellWeigher_b0 50 rfl
theorem dX6_tellWeigher_98 : decode cX6_tellWeigher 98 = .ok (.getfield 28, 3) := of_row (r := (98, .getfield 28, 3)) DX6_tellWeigher_b0 51 rfl
theorem dX6_tellWeigher_101 : decode cX6_tellWeigher 101 = .ok (.bipush 17, 2) := of_row (r := (101, .bipush 17, 2)) DX6_tellWeigher_b0 52 rfl
theorem dX6_tellWeigher_103 : decode cX6_tellWeigher 103 = .ok (.aload_n 0, 1) := of_row (r := (103, .aload_n 0, 1)) DX6_tellWeigher_b0 53 rfl
theorem dX6_tellWeigher_104 : decode cX6_tellWeigher 104 = .ok (.getfield 120, 3) := of_row (r := (104, .getfield 120, 3)) DX6_tellWeigher_b0 54 rfl
theorem dX6_tellWeigher_107 : decode cX6_tellWeigher 107 = .ok (.iconst 2, 1) := of_row (r := (107, .iconst 2, 1)) DX6_tellWeigher_b0 55 rfl
theorem dX6_tellWeigher_108 : decode cX6_tellWeigher 108 = .ok (.idiv, 1) := of_row (r := (108, .idiv, 1)) DX6_tellWeigher_b0 56 rfl
theorem dX6_tellWeigher_109 : decode cX6_tellWeigher 109 = .ok (.i2l, 1) := of_row (r := (109, .i2l, 1)) DX6_tellWeigher_b0 57 rfl
theorem dX6_tellWeigher_110 : decode cX6_tellWeigher 110 = .ok (.invokevirtual 158, 3) := of_row (r := (110, .invokevirtual 158, 3)) DX6_tellWeigher_b0 58 rfl
theorem dX6_tellWeigher_113 : decode cX6_tellWeigher 113 = .ok (.aload_n 0, 1) := of_row (r := (113, .aload_n 0, 1)) DX6_tellWeigher_b0 59 rfl
set_option maxRecDepth 20000 in
theorem DX6_tellWeigher_b1 : ([(114, .getfield 28, 3), (117, .bipush 18, 2), (119, .aload_n 0, 1), (120, .aload_n 0, 1), (121, .getfield 65, 3), (124, .iload_n 1, 1), (125, .iconst 0, 1), (126, .invokevirtual 139, 3), (129, .invokevirtual 162, 3), (132, .ifCond .eq 7, 3), (135, .lconst 1, 1), (136, .goto 4, 3), (139, .lconst 0, 1), (140, .invokevirtual 158, 3), (143, .aload_n 0, 1), (144, .getfield 28, 3), (147, .bipush 19, 2), (149, .lload 6, 2), (151, .invokevirtual 158, 3), (154, .aload_n 0, 1), (155, .getfield 28, 3), (158, .bipush 20, 2), (160, .aload_n 0, 1), (161, .getfield 65, 3), (164, .iload_n 1, 1), (165, .iconst 5, 1), (166, .invokevirtual 139, 3), (169, .iconst (-1), 1), (170, .if_icmp .ne 7, 3), (173, .lconst 0, 1), (174, .goto 4, 3), (177, .lconst 1, 1), (178, .invokevirtual 158, 3), (181, .return_, 1)] : List (Nat × Instr × Nat)).all (fun r => decide (decode cX6_tellWeigher r.1 = .ok r.2)) = true := by decide +kernel
theorem dX6_tellWeigher_114 : decode cX6_tellWeigher 114 = .ok (.getfield 28, 3) := of_row (r := (114, .getfield 28, 3)) DX6_tellWeigher_b1 0 rfl
theorem dX6_tellWeigher_117 : decode cX6_tellWeigher 117 = .ok (.bipush 18, 2) := of_row (r := (117, .bipush 18, 2)) DX6_tellWeigher_b1 1 rfl
theorem dX6_tellWeigher_119 : decode cX6_tellWeigher 119 = .ok (.aload_n 0, 1) := of_row (r := (119, .aload_n 0, 1)) DX6_tellWeigher_b1 2 rfl
theorem dX6_tellWeigher_120 : decode cX6_tellWeigher 120 = .ok (.aload_n 0, 1) := of_row (r := (120, .aload_n 0, 1)) DX6_tellWeigher_b1 3 rfl
theorem dX6_tellWeigher_121 : decode cX6_tellWeigher 121 = .ok (.getfield 65, 3) := of_row (r := (121, .getfield 65, 3)) DX6_tellWeigher_b1 4 rfl
theorem dX6_tellWeigher_124 : decode cX6_tellWeigher 124 = .ok (.iload_n 1, 1) := of_row (r := (124, .iload_n 1, 1)) DX6_tellWeigher_b1 5 rfl
theorem dX6_tellWeigher_125 : decode cX6_tellWeigher 125 = .ok (.iconst 0, 1) := of_row (r := (125, .iconst 0, 1)) DX6_tellWeigher_b1 6 rfl
theorem dX6_tellWeigher_126 : decode cX6_tellWeigher 126 = .ok (.invokevirtual 139, 3) := of_row (r := (126, .invokevirtual 139, 3)) DX6_tellWeigher_b1 7 rfl
theorem dX6_tellWeigher_129 : decode cX6_tellWeigher 129 = .ok (.invokevirtual 162, 3) := of_row (r := (129, .invokevirtual 162, 3)) DX6_tellWeigher_b1 8 rfl
theorem dX6_tellWeigher_132 : decode cX6_tellWeigher 132 = .ok (.ifCond .eq 7, 3) := of_row (r := (132, .ifCond .eq 7, 3)) DX6_tellWeigher_b1 9 rfl
theorem dX6_tellWeigher_135 : decode cX6_tellWeigher 135 = .ok (.lconst 1, 1) := of_row (r := (135, .lconst 1, 1)) DX6_tellWeigher_b1 10 rfl
theorem dX6_tellWeigher_136 : decode cX6_tellWeigher 136 = .ok (.goto 4, 3) := of_row (r := (136, .goto 4, 3)) DX6_tellWeigher_b1 11 rfl
theorem dX6_tellWeigher_139 : decode cX6_tellWeigher 139 = .ok (.lconst 0, 1) := of_row (r := (139, .lconst 0, 1)) DX6_tellWeigher_b1 12 rfl
theorem dX6_tellWeigher_140 : decode cX6_tellWeigher 140 = .ok (.invokevirtual 158, 3) := of_row (r := (140, .invokevirtual 158, 3)) DX6_tellWeigher_b1 13 rfl
theorem dX6_tellWeigher_143 : decode cX6_tellWeigher 143 = .ok (.aload_n 0, 1) := of_row (r := (143, .aload_n 0, 1)) DX6_tellWeigher_b1 14 rfl
theorem dX6_tellWeigher_144 : decode cX6_tellWeigher 144 = .ok (.getfield 28, 3) := of_row (r := (144, .getfield 28, 3)) DX6_tellWeigher_b1 15 rfl
theorem dX6_tellWeigher_147 : decode cX6_tellWeigher 147 = .ok (.bipush 19, 2) := of_row (r := (147, .bipush 19, 2)) DX6_tellWeigher_b1 16 rfl
theorem dX6_tellWeigher_149 : decode cX6_tellWeigher 149 = .ok (.lload 6, 2) := of_row (r := (149, .lload 6, 2)) DX6_tellWeigher_b1 17 rfl
theorem dX6_tellWeigher_151 : decode cX6_tellWeigher 151 = .ok (.invokevirtual 158, 3) := of_row (r := (151, .invokevirtual 158, 3)) DX6_tellWeigher_b1 18 rfl
theorem dX6_tellWeigher_154 : decode cX6_tellWeigher 154 = .ok (.aload_n 0, 1) := of_row (r := (154, .aload_n 0, 1)) DX6_tellWeigher_b1 19 rfl
theorem dX6_tellWeigher_155 : decode cX6_tellWeigher 155 = .ok (.getfield 28, 3) := of_row (r := (155, .getfield 28, 3)) DX6_tellWeigher_b1 20 rfl
theorem dX6_tellWeigher_158 : decode cX6_tellWeigher 158 = .ok (.bipush 20, 2) := of_row (r := (158, .bipush 20, 2)) DX6_tellWeigher_b1 21 rfl
theorem dX6_tellWeigher_160 : decode cX6_tellWeigher 160 = .ok (.aload_n 0, 1) := of_row (r := (160, .aload_n 0, 1)) DX6_tellWeigher_b1 22 rfl
theorem dX6_tellWeigher_161 : decode cX6_tellWeigher 161 = .ok (.getfield 65, 3) := of_row (r := (161, .getfield 65, 3)) DX6_tellWeigher_b1 23 rfl
theorem dX6_tellWeigher_164 : decode cX6_tellWeigher 164 = .ok (.iload_n 1, 1) := of_row (r := (164, .iload_n 1, 1)) DX6_tellWeigher_b1 24 rfl
theorem dX6_tellWeigher_165 : decode cX6_tellWeigher 165 = .ok (.iconst 5, 1) := of_row (r := (165, .iconst 5, 1)) DX6_tellWeigher_b1 25 rfl
theorem dX6_tellWeigher_166 : decode cX6_tellWeigher 166 = .ok (.invokevirtual 139, 3) := of_row (r := (166, .invokevirtual 139, 3)) DX6_tellWeigher_b1 26 rfl
theorem dX6_tellWeigher_169 : decode cX6_tellWeigher 169 = .ok (.iconst (-1), 1) := of_row (r := (169, .iconst (-1), 1)) DX6_tellWeigher_b1 27 rfl
theorem dX6_tellWeigher_170 : decode cX6_tellWeigher 170 = .ok (.if_icmp .ne 7, 3) := of_row (r := (170, .if_icmp .ne 7, 3)) DX6_tellWeigher_b1 28 rfl
theorem dX6_tellWeigher_173 : decode cX6_tellWeigher 173 = .ok (.lconst 0, 1) := of_row (r := (173, .lconst 0, 1)) DX6_tellWeigher_b1 29 rfl
theorem dX6_tellWeigher_174 : decode cX6_tellWeigher 174 = .ok (.goto 4, 3) := of_row (r := (174, .goto 4, 3)) DX6_tellWeigher_b1 30 rfl
theorem dX6_tellWeigher_177 : decode cX6_tellWeigher 177 = .ok (.lconst 1, 1) := of_row (r := (177, .lconst 1, 1)) DX6_tellWeigher_b1 31 rfl
theorem dX6_tellWeigher_178 : decode cX6_tellWeigher 178 = .ok (.invokevirtual 158, 3) := of_row (r := (178, .invokevirtual 158, 3)) DX6_tellWeigher_b1 32 rfl
theorem dX6_tellWeigher_181 : decode cX6_tellWeigher 181 = .ok (.return_, 1) := of_row (r := (181, .return_, 1)) DX6_tellWeigher_b1 33 rfl
set_option maxRecDepth 20000 in
theorem DX6_shire_b0 : ([(0, .iload_n 1, 1), (1, .ifCond .lt 19, 3), (4, .iload_n 1, 1), (5, .bipush 8, 2), (7, .if_icmp .ge 13, 3), (10, .iload_n 2, 1), (11, .ifCond .lt 9, 3), (14, .iload_n 2, 1), (15, .ldc 165, 2), (17, .if_icmp .le 5, 3), (20, .iconst (-1), 1), (21, .ireturn, 1), (22, .iload_n 3, 1), (23, .iconst (-1), 1), (24, .if_icmp .eq 12, 3), (27, .iload_n 3, 1), (28, .invokestatic 166, 3), (31, .ifCond .ne 5, 3), (34, .iconst (-1), 1), (35, .ireturn, 1), (36, .aload_n 0, 1), (37, .getfield 59, 3), (40, .iload_n 1, 1), (41, .iload_n 2, 1), (42, .iastore, 1), (43, .aload_n 0, 1), (44, .getfield 62, 3), (47, .iload_n 1, 1), (48, .iload_n 3, 1), (49, .iastore, 1), (50, .iconst 1, 1), (51, .ireturn, 1)] : List (Nat × Instr × Nat)).all (fun r => decide (decode cX6_shire r.1 = .ok r.2)) = true := by decide +kernel
theorem dX6_shire_0 : decode cX6_shire 0 = .ok (.iload_n 1, 1) := of_row (r := (0, .iload_n 1, 1)) DX6_shire_b0 0 rfl
theorem dX6_shire_1 : decode cX6_shire 1 = .ok (.ifCond .lt 19, 3) := of_row (r := (1, .ifCond .lt 19, 3)) DX6_shire_b0 1 rfl
theorem dX6_shire_4 : decode cX6_shire 4 = .ok (.iload_n 1, 1) := of_row (r := (4, .iload_n 1, 1)) DX6_shire_b0 2 rfl
theorem dX6_shire_5 : decode cX6_shire 5 = .ok (.bipush 8, 2) := of_row (r := (5, .bipush 8, 2)) DX6_shire_b0 3 rfl
theorem dX6_shire_7 : decode cX6_shire 7 = .ok (.if_icmp .ge 13, 3) := of_row (r := (7, .if_icmp .ge 13, 3)) DX6_shire_b0 4 rfl
theorem dX6_shire_10 : decode cX6_shire 10 = .ok (.iload_n 2, 1) := of_row (r := (10, .iload_n 2, 1)) DX6_shire_b0 5 rfl
theorem dX6_shire_11 : decode cX6_shire 11 = .ok (.ifCond .lt 9, 3) := of_row (r := (11, .ifCond .lt 9, 3)) DX6_shire_b0 6 rfl
theorem dX6_shire_14 : decode cX6_shire 14 = .ok (.iload_n 2, 1) := of_row (r := (14, .iload_n 2, 1)) DX6_shire_b0 7 rfl
theorem dX6_shire_15 : decode cX6_shire 15 = .ok (.ldc 165, 2) := of_row (r := (15, .ldc 165, 2)) DX6_shire_b0 8 rfl
theorem dX6_shire_17 : decode cX6_shire 17 = .ok (.if_icmp .le 5, 3) := of_row (r := (17, .if_icmp .le 5, 3)) DX6_shire_b0 9 rfl
theorem dX6_shire_20 : decode cX6_shire 20 = .ok (.iconst (-1), 1) := of_row (r := (20, .iconst (-1), 1)) DX6_shire_b0 10 rfl
theorem dX6_shire_21 : decode cX6_shire 21 = .ok (.ireturn, 1) := of_row (r := (21, .ireturn, 1)) DX6_shire_b0 11 rfl
theorem dX6_shire_22 : decode cX6_shire 22 = .ok (.iload_n 3, 1) := of_row (r := (22, .iload_n 3, 1)) DX6_shire_b0 12 rfl
theorem dX6_shire_23 : decode cX6_shire 23 = .ok (.iconst (-1), 1) := of_row (r := (23, .iconst (-1), 1)) DX6_shire_b0 13 rfl
theorem dX6_shire_24 : decode cX6_shire 24 = .ok (.if_icmp .eq 12, 3) := of_row (r := (24, .if_icmp .eq 12, 3)) DX6_shire_b0 14 rfl
theorem dX6_shire_27 : decode cX6_shire 27 = .ok (.iload_n 3, 1) := of_row (r := (27, .iload_n 3, 1)) DX6_shire_b0 15 rfl
theorem dX6_shire_28 : decode cX6_shire 28 = .ok (.invokestatic 166, 3) := of_row (r := (28, .invokestatic 166, 3)) DX6_shire_b0 16 rfl
theorem dX6_shire_31 : decode cX6_shire 31 = .ok (.ifCond .ne 5, 3) := of_row (r := (31, .ifCond .ne 5, 3)) DX6_shire_b0 17 rfl
theorem dX6_shire_34 : decode cX6_shire 34 = .ok (.iconst (-1), 1) := of_row (r := (34, .iconst (-1), 1)) DX6_shire_b0 18 rfl
theorem dX6_shire_35 : decode cX6_shire 35 = .ok (.ireturn, 1) := of_row (r := (35, .ireturn, 1)) DX6_shire_b0 19 rfl
theorem dX6_shire_36 : decode cX6_shire 36 = .ok (.aload_n 0, 1) := of_row (r := (36, .aload_n 0, 1)) DX6_shire_b0 20 rfl
theorem dX6_shire_37 : decode cX6_shire 37 = .ok (.getfield 59, 3) := of_row (r := (37, .getfield 59, 3)) DX6_shire_b0 21 rfl
theorem dX6_shire_40 : decode cX6_shire 40 = .ok (.iload_n 1, 1) := of_row (r := (40, .iload_n 1, 1)) DX6_shire_b0 22 rfl
theorem dX6_shire_41 : decode cX6_shire 41 = .ok (.iload_n 2, 1) := of_row (r := (41, .iload_n 2, 1)) DX6_shire_b0 23 rfl
theorem dX6_shire_42 : decode cX6_shire 42 = .ok (.iastore, 1) := of_row (r := (42, .iastore, 1)) DX6_shire_b0 24 rfl
theorem dX6_shire_43 : decode cX6_shire 43 = .ok (.aload_n 0, 1) := of_row (r := (43, .aload_n 0, 1)) DX6_shire_b0 25 rfl
theorem dX6_shire_44 : decode cX6_shire 44 = .ok (.getfield 62, 3) := of_row (r := (44, .getfield 62, 3)) DX6_shire_b0 26 rfl
theorem dX6_shire_47 : decode cX6_shire 47 = .ok (.iload_n 1, 1) := of_row (r := (47, .iload_n 1, 1)) DX6_shire_b0 27 rfl
theorem dX6_shire_48 : decode cX6_shire 48 = .ok (.iload_n 3, 1) := of_row (r := (48, .iload_n 3, 1)) DX6_shire_b0 28 rfl
theorem dX6_shire_49 : decode cX6_shire 49 = .ok (.iastore, 1) := of_row (r := (49, .iastore, 1)) DX6_shire_b0 29 rfl
theorem dX6_shire_50 : decode cX6_shire 50 = .ok (.iconst 1, 1) := of_row (r := (50, .iconst 1, 1)) DX6_shire_b0 30 rfl
theorem dX6_shire_51 : decode cX6_shire 51 = .ok (.ireturn, 1) := of_row (r := (51, .ireturn, 1)) DX6_shire_b0 31 rfl
set_option maxRecDepth 20000 in
theorem DX6_debt_b0 : ([(0, .iload_n 1, 1), (1, .invokestatic 166, 3), (4, .ifCond .eq 20, 3), (7, .iload_n 2, 1), (8, .iconst 1, 1), (9, .if_icmp .lt 15, 3), (12, .iload_n 2, 1), (13, .iconst 3, 1), (14, .if_icmp .gt 10, 3), (17, .iload_n 3, 1), (18, .invokestatic 169, 3), (21, .ifCond .ne 5, 3), (24, .iconst (-1), 1), (25, .ireturn, 1), (26, .iload_n 2, 1), (27, .iconst 3, 1), (28, .if_icmp .ne 25, 3), (31, .iload 4, 2), (33, .invokestatic 166, 3), (36, .ifCond .eq 13, 3), (39, .iload 4, 2), (41, .iload_n 1, 1), (42, .if_icmp .eq 7, 3), (45, .iconst 1, 1), (46, .goto 18, 3), (49, .iconst 0, 1), (50, .goto 14, 3), (53, .iload 4, 2), (55, .iconst (-1), 1), (56, .if_icmp .ne 7, 3), (59, .iconst 1, 1), (60, .goto 4, 3), (63, .iconst 0, 1), (64, .istore 5, 2), (66, .iload 5, 2), (68, .ifCond .ne 5, 3), (71, .iconst (-1), 1), (72, .ireturn, 1), (73, .aload_n 0, 1), (74, .getfield 65, 3), (77, .iconst 1, 1), (78, .invokevirtual 172, 3), (81, .ifCond .eq 15, 3), (84, .aload_n 0, 1), (85, .iload_n 1, 1), (86, .iload_n 2, 1), (87, .iload_n 3, 1), (88, .iload 4, 2), (90, .invokevirtual 173, 3), (93, .goto 5, 3), (96, .bipush (-3), 2), (98, .ireturn, 1)] : List (Nat × Instr × Nat)).all (fun r => decide (decode cX6_debt r.1 = .ok r.2)) = true := by decide +kernel
theorem dX6_debt_0 : decode cX6_debt 0 = .ok (.iload_n 1, 1) := of_row (r := (0, .iload_n 1, 1)) DX6_debt_b0 0 rfl
theorem dX6_debt_1 : decode cX6_debt 1 = .ok (.invokestatic 166, 3) := of_row (r := (1, .invokestatic 166, 3)) DX6_debt_b0 1 rfl
theorem dX6_debt_4 : decode cX6_debt 4 = .ok (.ifCond .eq 20, 3) := of_row (r := (4, .ifCond .eq 20, 3)) DX6_debt_b0 2 rfl
theorem dX6_debt_7 : decode cX6_debt 7 = .ok (.iload_n 2, 1) := of_row (r := (7, .iload_n 2, 1)) DX6_debt_b0 3 rfl
theorem dX6_debt_8 : decode cX6_debt 8 = .ok (.iconst 1, 1) := of_row (r := (8, .iconst 1, 1)) DX6_debt_b0 4 rfl
theorem dX6_debt_9 : decode cX6_debt 9 = .ok (.if_icmp .lt 15, 3) := of_row (r := (9, .if_icmp .lt 15, 3)) DX6_debt_b0 5 rfl
theorem dX6_debt_12 : decode cX6_debt 12 = .ok (.iload_n 2, 1) := of_row (r := (12, .iload_n 2, 1)) DX6_debt_b0 6 rfl
theorem dX6_debt_13 : decode cX6_debt 13 = .ok (.iconst 3, 1) := of_row (r := (13, .iconst 3, 1)) DX6_debt_b0 7 rfl
theorem dX6_debt_14 : decode cX6_debt 14 = .ok (.if_icmp .gt 10, 3) := of_row (r := (14, .if_icmp .gt 10, 3)) DX6_debt_b0 8 rfl
theorem dX6_debt_17 : decode cX6_debt 17 = .ok (.iload_n 3, 1) := of_row (r := (17, .iload_n 3, 1)) DX6_debt_b0 9 rfl
theorem dX6_debt_18 : decode cX6_debt 18 = .ok (.invokestatic 169, 3) := of_row (r := (18, .invokestatic 169, 3)) DX6_debt_b0 10 rfl
theorem dX6_debt_21 : decode cX6_debt 21 = .ok (.ifCond .ne 5, 3) := of_row (r := (21, .ifCond .ne 5, 3)) DX6_debt_b0 11 rfl
theorem dX6_debt_24 : decode cX6_debt 24 = .ok (.iconst (-1), 1) := of_row (r := (24, .iconst (-1), 1)) DX6_debt_b0 12 rfl
theorem dX6_debt_25 : decode cX6_debt 25 = .ok (.ireturn, 1) := of_row (r := (25, .ireturn, 1)) DX6_debt_b0 13 rfl
theorem dX6_debt_26 : decode cX6_debt 26 = .ok (.iload_n 2, 1) := of_row (r := (26, .iload_n 2, 1)) DX6_debt_b0 14 rfl
theorem dX6_debt_27 : decode cX6_debt 27 = .ok (.iconst 3, 1) := of_row (r := (27, .iconst 3, 1)) DX6_debt_b0 15 rfl
theorem dX6_debt_28 : decode cX6_debt 28 = .ok (.if_icmp .ne 25, 3) := of_row (r := (28, .if_icmp .ne 25, 3)) DX6_debt_b0 16 rfl
theorem dX6_debt_31 : decode cX6_debt 31 = .ok (.iload 4, 2) := of_row (r := (31, .iload 4, 2)) DX6_debt_b0 17 rfl
theorem dX6_debt_33 : decode cX6_debt 33 = .ok (.invokestatic 166, 3) := of_row (r := (33, .invokestatic 166, 3)) DX6_debt_b0 18 rfl
theorem dX6_debt_36 : decode cX6_debt 36 = .ok (.ifCond .eq 13, 3) := of_row (r := (36, .ifCond .eq 13, 3)) DX6_debt_b0 19 rfl
theorem dX6_debt_39 : decode cX6_debt 39 = .ok (.iload 4, 2) := of_row (r := (39, .iload 4, 2)) DX6_debt_b0 20 rfl
theorem dX6_debt_41 : decode cX6_debt 41 = .ok (.iload_n 1, 1) := of_row (r := (41, .iload_n 1, 1)) DX6_debt_b0 21 rfl
theorem dX6_debt_42 : decode cX6_debt 42 = .ok (.if_icmp .eq 7, 3) := of_row (r := (42, .if_icmp .eq 7, 3)) DX6_debt_b0 22 rfl
theorem dX6_debt_45 : decode cX6_debt 45 = .ok (.iconst 1, 1) := of_row (r := (45, .iconst 1, 1)) DX6_debt_b0 23 rfl
theorem dX6_debt_46 : decode cX6_debt 46 = .ok (.goto 18, 3) := of_row (r := (46, .goto 18, 3)) DX6_debt_b0 24 rfl
theorem dX6_debt_49 : decode cX6_debt 49 = .ok (.iconst 0, 1) := of_row (r := (49, .iconst 0, 1)) DX6_debt_b0 25 rfl
theorem dX6_debt_50 : decode cX6_debt 50 = .ok (.goto 14, 3) := of_row (r := (50, .goto 14, 3)) DX6_debt_b0 26 rfl
theorem dX6_debt_53 : decode cX6_debt 53 = .ok (.iload 4, 2) := of_row (r := (53, .iload 4, 2)) DX6_debt_b0 27 rfl
theorem dX6_debt_55 : decode cX6_debt 55 = .ok (.iconst (-1), 1) := of_row (r := (55, .iconst (-1), 1)) DX6_debt_b0 28 rfl
theorem dX6_debt_56 : decode cX6_debt 56 = .ok (.if_icmp .ne 7, 3) := of_row (r := (56, .if_icmp .ne 7, 3)) DX6_debt_b0 29 rfl
theorem dX6_debt_59 : decode cX6_debt 59 = .ok (.iconst 1, 1) := of_row (r := (59, .iconst 1, 1)) DX6_debt_b0 30 rfl
theorem dX6_debt_60 : decode cX6_debt 60 = .ok (.goto 4, 3) := of_row (r := (60, .goto 4, 3)) DX6_debt_b0 31 rfl
theorem dX6_debt_63 : decode cX6_debt 63 = .ok (.iconst 0, 1) := of_row (r := (63, .iconst 0, 1)) DX6_debt_b0 32 rfl
theorem dX6_debt_64 : decode cX6_debt 64 = .ok (.istore 5, 2) := of_row (r := (64, .istore 5, 2)) DX6_debt_b0 33 rfl
theorem dX6_debt_66 : decode cX6_debt 66 = .ok (.iload 5, 2) := of_row (r := (66, .iload 5, 2)) DX6_debt_b0 34 rfl
theorem dX6_debt_68 : decode cX6_debt 68 = .ok (.ifCond .ne 5, 3) := of_row (r := (68, .ifCond .ne 5, 3)) DX6_debt_b0 35 rfl
theorem dX6_debt_71 : decode cX6_debt 71 = .ok (.iconst (-1), 1) := of_row (r := (71, .iconst (-1), 1)) DX6_debt_b0 36 rfl
theorem dX6_debt_72 : decode cX6_debt 72 = .ok (.ireturn, 1) := of_row (r := (72, .ireturn, 1)) DX6_debt_b0 37 rfl
theorem dX6_debt_73 : decode cX6_debt 73 = .ok (.aload_n 0, 1) := of_row (r := (73, .aload_n 0, 1)) DX6_debt_b0 38 rfl
theorem dX6_debt_74 : decode cX6_debt 74 = .ok (.getfield 65, 3) := of_row (r := (74, .getfield 65, 3)) DX6_debt_b0 39 rfl
theorem dX6_debt_77 : decode cX6_debt 77 = .ok (.iconst 1, 1) := of_row (r := (77, .iconst 1, 1)) DX6_debt_b0 40 rfl
theorem dX6_debt_78 : decode cX6_debt 78 = .ok (.invokevirtual 172, 3) := of_row (r := (78, .invokevirtual 172, 3)) DX6_debt_b0 41 rfl
theorem dX6_debt_81 : decode cX6_debt 81 = .ok (.ifCond .eq 15, 3) := of_row (r := (81, .ifCond .eq 15, 3)) DX6_debt_b0 42 rfl
theorem dX6_debt_84 : decode cX6_debt 84 = .ok (.aload_n 0, 1) := of_row (r := (84, .aload_n 0, 1)) DX6_debt_b0 43 rfl
theorem dX6_debt_85 : decode cX6_debt 85 = .ok (.iload_n 1, 1) := of_row (r := (85, .iload_n 1, 1)) DX6_debt_b0 44 rfl
theorem dX6_debt_86 : decode cX6_debt 86 = .ok (.iload_n 2, 1) := of_row (r := (86, .iload_n 2, 1)) DX6_debt_b0 45 rfl
theorem dX6_debt_87 : decode cX6_debt 87 = .ok (.iload_n 3, 1) := of_row (r := (87, .iload_n 3, 1)) DX6_debt_b0 46 rfl
theorem dX6_debt_88 : decode cX6_debt 88 = .ok (.iload 4, 2) := of_row (r := (88, .iload 4, 2)) DX6_debt_b0 47 rfl
theorem dX6_debt_90 : decode cX6_debt 90 = .ok (.invokevirtual 173, 3) := of_row (r := (90, .invokevirtual 173, 3)) DX6_debt_b0 48 rfl
theorem dX6_debt_93 : decode cX6_debt 93 = .ok (.goto 5, 3) := of_row (r := (93, .goto 5, 3)) DX6_debt_b0 49 rfl
theorem dX6_debt_96 : decode cX6_debt 96 = .ok (.bipush (-3), 2) := of_row (r := (96, .bipush (-3), 2)) DX6_debt_b0 50 rfl
theorem dX6_debt_98 : decode cX6_debt 98 = .ok (.ireturn, 1) := of_row (r := (98, .ireturn, 1)) DX6_debt_b0 51 rfl
set_option maxRecDepth 20000 in
theorem DX6_term_b0 : ([(0, .aload_n 0, 1), (1, .getfield 120, 3), (4, .sipush 1000, 3), (7, .if_icmp .lt 5, 3), (10, .iconst (-1), 1), (11, .ireturn, 1), (12, .aload_n 0, 1), (13, .getfield 120, 3), (16, .iconst 1, 1), (17, .iadd, 1), (18, .iconst 2, 1), (19, .irem, 1), (20, .ifCond .ne 7, 3), (23, .iconst 1, 1), (24, .goto 4, 3), (27, .iconst 0, 1), (28, .istore_n 1, 1), (29, .iload_n 1, 1), (30, .ifCond .eq 20, 3), (33, .aload_n 0, 1), (34, .getfield 65, 3), (37, .aload_n 0, 1), (38, .invokevirtual 177, 3), (41, .invokevirtual 172, 3), (44, .ifCond .ne 6, 3), (47, .bipush (-3), 2), (49, .ireturn, 1), (50, .aload_n 0, 1), (51, .dup, 1), (52, .getfield 120, 3), (55, .iconst 1, 1), (56, .iadd, 1), (57, .putfield 120, 3), (60, .iload_n 1, 1), (61, .ifCond .eq 7, 3), (64, .aload_n 0, 1), (65, .invokevirtual 180, 3), (68, .aload_n 0, 1), (69, .getfield 120, 3), (72, .ireturn, 1)] : List (Nat × Instr × Nat)).all (fun r => decide (decode cX6_term r.1 = .ok r.2)) = true := by decide +kernel
theorem dX6_term_0 : decode cX6_term 0 = .ok (.aload_n 0, 1) := of_row (r := (0, .aload_n 0, 1)) DX6_term_b0 0 rfl
theorem dX6_term_1 : decode cX6_term 1 = .ok (.getfield 120, 3) := of_row (r := (1, .getfield 120, 3)) DX6_term_b0 1 rfl
theorem dX6_term_4 : decode cX6_term 4 = .ok (.sipush 1000, 3) := of_row (r := (4, .sipush 1000, 3)) DX6_term_b0 2 rfl
theorem dX6_term_7 : decode cX6_term 7 = .ok (.if_icmp .lt 5, 3) := of_row (r := (7, .if_icmp .lt 5, 3)) DX6_term_b0 3 rfl
theorem dX6_term_10 : decode cX6_term 10 = .ok (.iconst (-1), 1) := of_row (r := (10, .iconst (-1), 1)) DX6_term_b0 4 rfl
theorem dX6_term_11 : decode cX6_term 11 = .ok (.ireturn, 1) := of_row (r := (11, .ireturn, 1)) DX6_term_b0 5 rfl
theorem dX6_term_12 : decode cX6_term 12 = .ok (.aload_n 0, 1) := of_row (r := (12, .aload_n 0, 1)) DX6_term_b0 6 rfl
theorem dX6_term_13 : decode cX6_term 13 = .ok (.getfield 120, 3) := of_row (r := (13, .getfield 120, 3)) DX6_term_b0 7 rfl
theorem dX6_term_16 : decode cX6_term 16 = .ok (.iconst 1, 1) := of_row (r := (16, .iconst 1, 1)) DX6_term_b0 8 rfl
theorem dX6_term_17 : decode cX6_term 17 = .ok (.iadd, 1) := of_row (r := (17, .iadd, 1)) DX6_term_b0 9 rfl
theorem dX6_term_18 : decode cX6_term 18 = .ok (.iconst 2, 1) := of_row (r := (18, .iconst 2, 1)) DX6_term_b0 10 rfl
theorem dX6_term_19 : decode cX6_term 19 = .ok (.irem, 1) := of_row (r := (19, .irem, 1)) DX6_term_b0 11 rfl
theorem dX6_term_20 : decode cX6_term 20 = .ok (.ifCond .ne 7, 3) := of_row (r := (20, .ifCond .ne 7, 3)) DX6_term_b0 12 rfl
theorem dX6_term_23 : decode cX6_term 23 = .ok (.iconst 1, 1) := of_row (r := (23, .iconst 1, 1)) DX6_term_b0 13 rfl
theorem dX6_term_24 : decode cX6_term 24 = .ok (.goto 4, 3) := of_row (r := (24, .goto 4, 3)) DX6_term_b0 14 rfl
theorem dX6_term_27 : decode cX6_term 27 = .ok (.iconst 0, 1) := of_row (r := (27, .iconst 0, 1)) DX6_term_b0 15 rfl
theorem dX6_term_28 : decode cX6_term 28 = .ok (.istore_n 1, 1) := of_row (r := (28, .istore_n 1, 1)) DX6_term_b0 16 rfl
theorem dX6_term_29 : decode cX6_term 29 = .ok (.iload_n 1, 1) := of_row (r := (29, .iload_n 1, 1)) DX6_term_b0 17 rfl
theorem dX6_term_30 : decode cX6_term 30 = .ok (.ifCond .eq 20, 3) := of_row (r := (30, .ifCond .eq 20, 3)) DX6_term_b0 18 rfl
theorem dX6_term_33 : decode cX6_term 33 = .ok (.aload_n 0, 1) := of_row (r := (33, .aload_n 0, 1)) DX6_term_b0 19 rfl
theorem dX6_term_34 : decode cX6_term 34 = .ok (.getfield 65, 3) := of_row (r := (34, .getfield 65, 3)) DX6_term_b0 20 rfl
theorem dX6_term_37 : decode cX6_term 37 = .ok (.aload_n 0, 1) := of_row (r := (37, .aload_n 0, 1)) DX6_term_b0 21 rfl
theorem dX6_term_38 : decode cX6_term 38 = .ok (.invokevirtual 177, 3) := of_row (r := (38, .invokevirtual 177, 3)) DX6_term_b0 22 rfl
theorem dX6_term_41 : decode cX6_term 41 = .ok (.invokevirtual 172, 3) := of_row (r := (41, .invokevirtual 172, 3)) DX6_term_b0 23 rfl
theorem dX6_term_44 : decode cX6_term 44 = .ok (.ifCond .ne 6, 3) := of_row (r := (44, .ifCond .ne 6, 3)) DX6_term_b0 24 rfl
theorem dX6_term_47 : decode cX6_term 47 = .ok (.bipush (-3), 2) := of_row (r := (47, .bipush (-3), 2)) DX6_term_b0 25 rfl
theorem dX6_term_49 : decode cX6_term 49 = .ok (.ireturn, 1) := of_row (r := (49, .ireturn, 1)) DX6_term_b0 26 rfl
theorem dX6_term_50 : decode cX6_term 50 = .ok (.aload_n 0, 1) := of_row (r := (50, .aload_n 0, 1)) DX6_term_b0 27 rfl
theorem dX6_term_51 : decode cX6_term 51 = .ok (.dup, 1) := of_row (r := (51, .dup, 1)) DX6_term_b0 28 rfl
theorem dX6_term_52 : decode cX6_term 52 = .ok (.getfield 120, 3) := of_row (r := (52, .getfield 120, 3)) DX6_term_b0 29 rfl
theorem dX6_term_55 : decode cX6_term 55 = .ok (.iconst 1, 1) := of_row (r := (55, .iconst 1, 1)) DX6_term_b0 30 rfl
theorem dX6_term_56 : decode cX6_term 56 = .ok (.iadd, 1) := of_row (r := (56, .iadd, 1)) DX6_term_b0 31 rfl
theorem dX6_term_57 : decode cX6_term 57 = .ok (.putfield 120, 3) := of_row (r := (57, .putfield 120, 3)) DX6_term_b0 32 rfl
theorem dX6_term_60 : decode cX6_term 60 = .ok (.iload_n 1, 1) := of_row (r := (60, .iload_n 1, 1)) DX6_term_b0 33 rfl
theorem dX6_term_61 : decode cX6_term 61 = .ok (.ifCond .eq 7, 3) := of_row (r := (61, .ifCond .eq 7, 3)) DX6_term_b0 34 rfl
theorem dX6_term_64 : decode cX6_term 64 = .ok (.aload_n 0, 1) := of_row (r := (64, .aload_n 0, 1)) DX6_term_b0 35 rfl
theorem dX6_term_65 : decode cX6_term 65 = .ok (.invokevirtual 180, 3) := of_row (r := (65, .invokevirtual 180, 3)) DX6_term_b0 36 rfl
theorem dX6_term_68 : decode cX6_term 68 = .ok (.aload_n 0, 1) := of_row (r := (68, .aload_n 0, 1)) DX6_term_b0 37 rfl
theorem dX6_term_69 : decode cX6_term 69 = .ok (.getfield 120, 3) := of_row (r := (69, .getfield 120, 3)) DX6_term_b0 38 rfl
theorem dX6_term_72 : decode cX6_term 72 = .ok (.ireturn, 1) := of_row (r := (72, .ireturn, 1)) DX6_term_b0 39 rfl
set_option maxRecDepth 20000 in
theorem DX6_come_b0 : ([(0, .iload_n 1, 1), (1, .invokestatic 166, 3), (4, .ifCond .eq 13, 3), (7, .iload_n 2, 1), (8, .ifCond .lt 9, 3), (11, .iload_n 2, 1), (12, .ldc 183, 2), (14, .if_icmp .le 5, 3), (17, .iconst (-1), 1), (18, .ireturn, 1), (19, .aload_n 0, 1), (20, .getfield 55, 3), (23, .iload_n 1, 1), (24, .iaload, 1), (25, .aload_n 0, 1), (26, .getfield 120, 3), (29, .if_icmp .ne 6, 3), (32, .bipush (-2), 2), (34, .ireturn, 1), (35, .aload_n 0, 1), (36, .iload_n 1, 1), (37, .invokevirtual 184, 3), (40, .istore_n 3, 1), (41, .aload_n 0, 1), (42, .getfield 68, 3), (45, .iload_n 3, 1), (46, .invokevirtual 172, 3), (49, .ifCond .eq 14, 3), (52, .aload_n 0, 1), (53, .getfield 71, 3), (56, .iload_n 3, 1), (57, .invokevirtual 172, 3), (60, .ifCond .ne 6, 3), (63, .bipush (-3), 2), (65, .ireturn, 1), (66, .aload_n 0, 1), (67, .getfield 55, 3), (70, .iload_n 1, 1), (71, .aload_n 0, 1), (72, .getfield 120, 3), (75, .iastore, 1), (76, .aload_n 0, 1), (77, .dup, 1), (78, .getfield 187, 3), (81, .iload_n 2, 1), (82, .i2l, 1), (83, .ladd, 1), (84, .putfield 187, 3), (87, .aload_n 0, 1), (88, .getfield 47, 3), (91, .iload_n 1, 1), (92, .laload, 1), (93, .iload_n 2, 1), (94, .i2l, 1), (95, .ladd, 1), (96, .lstore 4, 2), (98, .aload_n 0, 1), (99, .getfield 47, 3), (102, .iload_n 1, 1), (103, .lload 4, 2)] : List (Nat × Instr × Nat)).all (fun r => decide (decode cX6_come r.1 = .ok r.2)) = true := by decide +kernel
theorem dX6_come_0 : decode cX6_come 0 = .ok (.iload_n 1, 1) := of_row (r := (0, .iload_n 1, 1)) DX6_come_b0 0 rfl
theorem dX6_come_1 : decode cX6_come 1 = .ok (.invokestatic 166, 3) := of_row (r := (1, .invokestatic 166, 3)) DX6_come_b0 1 rfl
theorem dX6_come_4 : decode cX6_come 4 = .ok (.ifCond .eq 13, 3) := of_row (r := (4, .ifCond .eq 13, 3)) DX6_come_b0 2 rfl
theorem dX6_come_7 : decode cX6_come 7 = .ok (.iload_n 2, 1) := of_row (r := (7, .iload_n 2, 1)) DX6_come_b0 3 rfl
theorem dX6_come_8 : decode cX6_come 8 = .ok (.ifCond .lt 9, 3) := of_row (r := (8, .ifCond .lt 9, 3)) DX6_come_b0 4 rfl
theorem dX6_come_11 : decode cX6_come 11 = .ok (.iload_n 2, 1) := of_row (r := (11, .iload_n 2, 1)) DX6_come_b0 5 rfl
theorem dX6_come_12 : decode cX6_come 12 = .ok (.ldc 183, 2) := of_row (r := (12, .ldc 183, 2)) DX6_come_b0 6 rfl
theorem dX6_come_14 : decode cX6_come 14 = .ok (.if_icmp .le 5, 3) := of_row (r := (14, .if_icmp .le 5, 3)) DX6_come_b0 7 rfl
theorem dX6_come_17 : decode cX6_come 17 = .ok (.iconst (-1), 1) := of_row (r := (17, .iconst (-1), 1)) DX6_come_b0 8 rfl
theorem dX6_come_18 : decode cX6_come 18 = .ok (.ireturn, 1) := of_row (r := (18, .ireturn, 1)) DX6_come_b0 9 rfl
theorem dX6_come_19 : decode cX6_come 19 = .ok (.aload_n 0, 1) := of_row (r := (19, .aload_n 0, 1)) DX6_come_b0 10 rfl
theorem dX6_come_20 : decode cX6_come 20 = .ok (.getfield 55, 3) := of_row (r := (20, .getfield 55, 3)) DX6_come_b0 11 rfl
theorem dX6_come_23 : decode cX6_come 23 = .ok (.iload_n 1, 1) := of_row (r := (23, .iload_n 1, 1)) DX6_come_b0 12 rfl
theorem dX6_come_24 : decode cX6_come 24 = .ok (.iaload, 1) := of_row (r := (24, .iaload, 1)) DX6_come_b0 13 rfl
theorem dX6_come_25 : decode cX6_come 25 = .ok (.aload_n 0, 1) := of_row (r := (25, .aload_n 0, 1)) DX6_come_b0 14 rfl
theorem dX6_come_26 : decode cX6_come 26 = .ok (.getfield 120, 3) := of_row (r := (26, .getfield 120, 3)) DX6_come_b0 15 rfl
theorem dX6_come_29 : decode cX6_come 29 = .ok (.if_icmp .ne 6, 3) := of_row (r := (29, .if_icmp .ne 6, 3)) DX6_come_b0 16 rfl
theorem dX6_come_32 : decode cX6_come 32 = .ok (.bipush (-2), 2) := of_row (r := (32, .bipush (-2), 2)) DX6_come_b0 17 rfl
theorem dX6_come_34 : decode cX6_come 34 = .ok (.ireturn, 1) := of_row (r := (34, .ireturn, 1)) DX6_come_b0 18 rfl
theorem dX6_come_35 : decode cX6_come 35 = .ok (.aload_n 0, 1) := of_row (r := (35, .aload_n 0, 1)) DX6_come_b0 19 rfl
theorem dX6_come_36 : decode cX6_come 36 = .ok (.iload_n 1, 1) := of_row (r := (36, .iload_n 1, 1)) DX6_come_b0 20 rfl
theorem dX6_come_37 : decode cX6_come 37 = .ok (.invokevirtual 184, 3) := of_row (r := (37, .invokevirtual 184, 3)) DX6_come_b0 21 rfl
theorem dX6_come_40 : decode cX6_come 40 = .ok (.istore_n 3, 1) := of_row (r := (40, .istore_n 3, 1)) DX6_come_b0 22 rfl
theorem dX6_come_41 : decode cX6_come 41 = .ok (.aload_n 0, 1) := of_row (r := (41, .aload_n 0, 1)) DX6_come_b0 23 rfl
theorem dX6_come_42 : decode cX6_come 42 = .ok (.getfield 68, 3) := of_row (r := (42, .getfield 68, 3)) DX6_come_b0 24 rfl
theorem dX6_come_45 : decode cX6_come 45 = .ok (.iload_n 3, 1) := of_row (r := (45, .iload_n 3, 1)) DX6_come_b0 25 rfl
theorem dX6_come_46 : decode cX6_come 46 = .ok (.invokevirtual 172, 3) := of_row (r := (46, .invokevirtual 172, 3)) DX6_come_b0 26 rfl
theorem dX6_come_49 : decode cX6_come 49 = .ok (.ifCond .eq 14, 3) := of_row (r := (49, .ifCond .eq 14, 3)) DX6_come_b0 27 rfl
theorem dX6_come_52 : decode cX6_come 52 = .ok (.aload_n 0, 1) := of_row (r := (52, .aload_n 0, 1)) DX6_come_b0 28 rfl
theorem dX6_come_53 : decode cX6_come 53 = .ok (.getfield 71, 3) := of_row (r := (53, .getfield 71, 3)) DX6_come_b0 29 rfl
theorem dX6_come_56 : decode cX6_come 56 = .ok (.iload_n 3, 1) := of_row (r := (56, .iload_n 3, 1)) DX6_come_b0 30 rfl
theorem dX6_come_57 : decode cX6_come 57 = .ok (.invokevirtual 172, 3) := of_row (r := (57, .invokevirtual 172, 3)) DX6_come_b0 31 rfl
theorem dX6_come_60 : decode cX6_come 60 = .ok (.ifCond .ne 6, 3) := of_row (r := (60, .ifCond .ne 6, 3)) DX6_come_b0 32 rfl
theorem dX6_come_63 : decode cX6_come 63 = .ok (.bipush (-3), 2) := of_row (r := (63, .bipush (-3), 2)) DX6_come_b0 33 rfl
theorem dX6_come_65 : decode cX6_come 65 = .ok (.ireturn, 1) := of_row (r := (65, .ireturn, 1)) DX6_come_b0 34 rfl
theorem dX6_come_66 : decode cX6_come 66 = .ok (.aload_n 0, 1) := of_row (r := (66, .aload_n 0, 1)) DX6_come_b0 35 rfl
theorem dX6_come_67 : decode cX6_come 67 = .ok (.getfield 55, 3) := of_row (r := (67, .getfield 55, 3)) DX6_come_b0 36 rfl
theorem dX6_come_70 : decode cX6_come 70 = .ok (.iload_n 1, 1) := of_row (r := (70, .iload_n 1, 1)) DX6_come_b0 37 rfl
theorem dX6_come_71 : decode cX6_come 71 = .ok (.aload_n 0, 1) := of_row (r := (71, .aload_n 0, 1)) DX6_come_b0 38 rfl
theorem dX6_come_72 : decode cX6_come 72 = .ok (.getfield 120, 3) := of_row (r := (72, .getfield 120, 3)) DX6_come_b0 39 rfl
theorem dX6_come_75 : decode cX6_come 75 = .ok (.iastore, 1) := of_row (r := (75, .iastore, 1)) DX6_come_b0 40 rfl
theorem dX6_come_76 : decode cX6_come 76 = .ok (.aload_n 0, 1) := of_row (r := (76, .aload_n 0, 1)) DX6_come_b0 41 rfl
theorem dX6_come_77 : decode cX6_come 77 = .ok (.dup, 1) := of_row (r := (77, .dup, 1)) DX6_come_b0 42 rfl
theorem dX6_come_78 : decode cX6_come 78 = .ok (.getfield 187, 3) := of_row (r := (78, .getfield 187, 3)) DX6_come_b0 43 rfl
theorem dX6_come_81 : decode cX6_come 81 = .ok (.iload_n 2, 1) := of_row (r := (81, .iload_n 2, 1)) DX6_come_b0 44 rfl
theorem dX6_come_82 : decode cX6_come 82 = .ok (.i2l, 1) := of_row (r := (82, .i2l, 1)) DX6_come_b0 45 rfl
theorem dX6_come_83 : decode cX6_come 83 = .ok (.ladd, 1) := of_row (r := (83, .ladd, 1)) DX6_come_b0 46 rfl
theorem dX6_come_84 : decode cX6_come 84 = .ok (.putfield 187, 3) := of_row (r := (84, .putfield 187, 3)) DX6_come_b0 47 rfl
theorem dX6_come_87 : decode cX6_come 87 = .ok (.aload_n 0, 1) := of_row (r := (87, .aload_n 0, 1)) DX6_come_b0 48 rfl
theorem dX6_come_88 : decode cX6_come 88 = .ok (.getfield 47, 3) := of_row (r := (88, .getfield 47, 3)) DX6_come_b0 49 rfl
theorem dX6_come_91 : decode cX6_come 91 = .ok (.iload_n 1, 1) := of_row (r := (91, .iload_n 1, 1)) DX6_come_b0 50 rfl
theorem dX6_come_92 : decode cX6_come 92 = .ok (.laload, 1) := of_row (r := (92, .laload, 1)) DX6_come_b0 51 rfl
theorem dX6_come_93 : decode cX6_come 93 = .ok (.iload_n 2, 1) := of_row (r := (93, .iload_n 2, 1)) DX6_come_b0 52 rfl
theorem dX6_come_94 : decode cX6_come 94 = .ok (.i2l, 1) := of_row (r := (94, .i2l, 1)) DX6_come_b0 53 rfl
theorem dX6_come_95 : decode cX6_come 95 = .ok (.ladd, 1) := of_row (r := (95, .ladd, 1)) DX6_come_b0 54 rfl
theorem dX6_come_96 : decode cX6_come 96 = .ok (.lstore 4, 2) := of_row (r := (96, .lstore 4, 2)) DX6_come_b0 55 rfl
theorem dX6_come_98 : decode cX6_come 98 = .ok (.aload_n 0, 1) := of_row (r := (98, .aload_n 0, 1)) DX6_come_b0 56 rfl
theorem dX6_come_99 : decode cX6_come 99 = .ok (.getfield 47, 3) := of_row (r := (99, .getfield 47, 3)) DX6_come_b0 57 rfl
theorem dX6_come_102 : decode cX6_come 102 = .ok (.iload_n 1, 1) := of_row (r := (102, .iload_n 1, 1)) DX6_come_b0 58 rfl
theorem dX6_come_103 : decode cX6_come 103 = .ok (.lload 4, 2) := of_row (r := (103, .lload 4, 2)) DX6_come_b0 59 rfl
set_option maxRecDepth 20000 in
theorem DX6_come_b1 : ([(105, .aload_n 0, 1), (106, .iload_n 1, 1), (107, .lload 4, 2), (109, .invokevirtual 191, 3), (112, .lsub, 1), (113, .lastore, 1), (114, .iload_n 3, 1), (115, .ireturn, 1)] : List (Nat × Instr × Nat)).all (fun r => decide (decode cX6_come r.1 = .ok r.2)) = true := by decide +kernel
theorem dX6_come_105 : decode cX6_come 105 = .ok (.aload_n 0, 1) := of_row (r := (105, .aload_n 0, 1)) DX6_come_b1 0 rfl
theorem dX6_come_106 : decode cX6_come 106 = .ok (.iload_n 1, 1) := of_row (r := (106, .iload_n 1, 1)) DX6_come_b1 1 rfl
theorem dX6_come_107 : decode cX6_come 107 = .ok (.lload 4, 2) := of_row (r := (107, .lload 4, 2)) DX6_come_b1 2 rfl
theorem dX6_come_109 : decode cX6_come 109 = .ok (.invokevirtual 191, 3) := of_row (r := (109, .invokevirtual 191, 3)) DX6_come_b1 3 rfl
theorem dX6_come_112 : decode cX6_come 112 = .ok (.lsub, 1) := of_row (r := (112, .lsub, 1)) DX6_come_b1 4 rfl
theorem dX6_come_113 : decode cX6_come 113 = .ok (.lastore, 1) := of_row (r := (113, .lastore, 1)) DX6_come_b1 5 rfl
theorem dX6_come_114 : decode cX6_come 114 = .ok (.iload_n 3, 1) := of_row (r := (114, .iload_n 3, 1)) DX6_come_b1 6 rfl
theorem dX6_come_115 : decode cX6_come 115 = .ok (.ireturn, 1) := of_row (r := (115, .ireturn, 1)) DX6_come_b1 7 rfl
set_option maxRecDepth 20000 in
theorem DX6_free_b0 : ([(0, .iload_n 1, 1), (1, .invokestatic 166, 3), (4, .ifCond .ne 5, 3), (7, .iconst (-1), 1), (8, .ireturn, 1), (9, .aload_n 0, 1), (10, .getfield 51, 3), (13, .iload_n 1, 1), (14, .baload, 1), (15, .ifCond .eq 7, 3), (18, .iconst 1, 1), (19, .goto 4, 3), (22, .iconst 0, 1), (23, .istore_n 2, 1), (24, .aload_n 0, 1), (25, .getfield 51, 3), (28, .iload_n 1, 1), (29, .iconst 0, 1), (30, .bastore, 1), (31, .iload_n 2, 1), (32, .ireturn, 1)] : List (Nat × Instr × Nat)).all (fun r => decide (decode cX6_free r.1 = .ok r.2)) = true := by decide +kernel
theorem dX6_free_0 : decode cX6_free 0 = .ok (.iload_n 1, 1) := of_row (r := (0, .iload_n 1, 1)) DX6_free_b0 0 rfl
theorem dX6_free_1 : decode cX6_free 1 = .ok (.invokestatic 166, 3) := of_row (r := (1, .invokestatic 166, 3)) DX6_free_b0 1 rfl
theorem dX6_free_4 : decode cX6_free 4 = .ok (.ifCond .ne 5, 3) := of_row (r := (4, .ifCond .ne 5, 3)) DX6_free_b0 2 rfl
theorem dX6_free_7 : decode cX6_free 7 = .ok (.iconst (-1), 1) := of_row (r := (7, .iconst (-1), 1)) DX6_free_b0 3 rfl
theorem dX6_free_8 : decode cX6_free 8 = .ok (.ireturn, 1) := of_row (r := (8, .ireturn, 1)) DX6_free_b0 4 rfl
theorem dX6_free_9 : decode cX6_free 9 = .ok (.aload_n 0, 1) := of_row (r := (9, .aload_n 0, 1)) DX6_free_b0 5 rfl
theorem dX6_free_10 : decode cX6_free 10 = .ok (.getfield 51, 3) := of_row (r := (10, .getfield 51, 3)) DX6_free_b0 6 rfl
theorem dX6_free_13 : decode cX6_free 13 = .ok (.iload_n 1, 1) := of_row (r := (13, .iload_n 1, 1)) DX6_free_b0 7 rfl
theorem dX6_free_14 : decode cX6_free 14 = .ok (.baload, 1) := of_row (r := (14, .baload, 1)) DX6_free_b0 8 rfl
theorem dX6_free_15 : decode cX6_free 15 = .ok (.ifCond .eq 7, 3) := of_row (r := (15, .ifCond .eq 7, 3)) DX6_free_b0 9 rfl
theorem dX6_free_18 : decode cX6_free 18 = .ok (.iconst 1, 1) := of_row (r := (18, .iconst 1, 1)) DX6_free_b0 10 rfl
theorem dX6_free_19 : decode cX6_free 19 = .ok (.goto 4, 3) := of_row (r := (19, .goto 4, 3)) DX6_free_b0 11 rfl
theorem dX6_free_22 : decode cX6_free 22 = .ok (.iconst 0, 1) := of_row (r := (22, .iconst 0, 1)) DX6_free_b0 12 rfl
theorem dX6_free_23 : decode cX6_free 23 = .ok (.istore_n 2, 1) := of_row (r := (23, .istore_n 2, 1)) DX6_free_b0 13 rfl
theorem dX6_free_24 : decode cX6_free 24 = .ok (.aload_n 0, 1) := of_row (r := (24, .aload_n 0, 1)) DX6_free_b0 14 rfl
theorem dX6_free_25 : decode cX6_free 25 = .ok (.getfield 51, 3) := of_row (r := (25, .getfield 51, 3)) DX6_free_b0 15 rfl
theorem dX6_free_28 : decode cX6_free 28 = .ok (.iload_n 1, 1) := of_row (r := (28, .iload_n 1, 1)) DX6_free_b0 16 rfl
theorem dX6_free_29 : decode cX6_free 29 = .ok (.iconst 0, 1) := of_row (r := (29, .iconst 0, 1)) DX6_free_b0 17 rfl
theorem dX6_free_30 : decode cX6_free 30 = .ok (.bastore, 1) := of_row (r := (30, .bastore, 1)) DX6_free_b0 18 rfl
theorem dX6_free_31 : decode cX6_free 31 = .ok (.iload_n 2, 1) := of_row (r := (31, .iload_n 2, 1)) DX6_free_b0 19 rfl
theorem dX6_free_32 : decode cX6_free 32 = .ok (.ireturn, 1) := of_row (r := (32, .ireturn, 1)) DX6_free_b0 20 rfl
set_option maxRecDepth 20000 in
theorem DX6_heir_b0 : ([(0, .iload_n 1, 1), (1, .invokestatic 166, 3), (4, .ifCond .eq 15, 3), (7, .iload_n 2, 1), (8, .invokestatic 166, 3), (11, .ifCond .eq 8, 3), (14, .iload_n 1, 1), (15, .iload_n 2, 1), (16, .if_icmp .ne 5, 3), (19, .iconst (-1), 1), (20, .ireturn, 1), (21, .iconst 0, 1), (22, .istore_n 3, 1), (23, .iconst 0, 1), (24, .istore 4, 2), (26, .iload 4, 2), (28, .aload_n 0, 1), (29, .getfield 65, 3), (32, .getfield 155, 3), (35, .if_icmp .ge 29, 3), (38, .aload_n 0, 1), (39, .iload 4, 2), (41, .iload_n 1, 1), (42, .invokevirtual 195, 3), (45, .ifCond .eq 13, 3), (48, .aload_n 0, 1), (49, .iload 4, 2), (51, .iload_n 2, 1), (52, .invokevirtual 199, 3), (55, .iinc 3 1, 3), (58, .iinc 4 1, 3), (61, .goto (-35), 3), (64, .aload_n 0, 1), (65, .getfield 47, 3), (68, .iload_n 2, 1), (69, .dup2, 1), (70, .laload, 1), (71, .aload_n 0, 1), (72, .getfield 47, 3), (75, .iload_n 1, 1), (76, .laload, 1), (77, .ladd, 1), (78, .lastore, 1), (79, .aload_n 0, 1), (80, .getfield 47, 3), (83, .iload_n 1, 1), (84, .lconst 0, 1), (85, .lastore, 1), (86, .iload_n 3, 1), (87, .ireturn, 1)] : List (Nat × Instr × Nat)).all (fun r => decide (decode cX6_heir r.1 = .ok r.2)) = true := by decide +kernel
theorem dX6_heir_0 : decode cX6_heir 0 = .ok (.iload_n 1, 1) := of_row (r := (0, .iload_n 1, 1)) DX6_heir_b0 0 rfl
theorem dX6_heir_1 : decode cX6_heir 1 = .ok (.invokestatic 166, 3) := of_row (r := (1, .invokestatic 166, 3)) DX6_heir_b0 1 rfl
theorem dX6_heir_4 : decode cX6_heir 4 = .ok (.ifCond .eq 15, 3) := of_row (r := (4, .ifCond .eq 15, 3)) DX6_heir_b0 2 rfl
theorem dX6_heir_7 : decode cX6_heir 7 = .ok (.iload_n 2, 1) := of_row (r := (7, .iload_n 2, 1)) DX6_heir_b0 3 rfl
theorem dX6_heir_8 : decode cX6_heir 8 = .ok (.invokestatic 166, 3) := of_row (r := (8, .invokestatic 166, 3)) DX6_heir_b0 4 rfl
theorem dX6_heir_11 : decode cX6_heir 11 = .ok (.ifCond .eq 8, 3) := of_row (r := (11, .ifCond .eq 8, 3)) DX6_heir_b0 5 rfl
theorem dX6_heir_14 : decode cX6_heir 14 = .ok (.iload_n 1, 1) := of_row (r := (14, .iload_n 1, 1)) DX6_heir_b0 6 rfl
theorem dX6_heir_15 : decode cX6_heir 15 = .ok (.iload_n 2, 1) := of_row (r := (15, .iload_n 2, 1)) DX6_heir_b0 7 rfl
theorem dX6_heir_16 : decode cX6_heir 16 = .ok (.if_icmp .ne 5, 3) := of_row (r := (16, .if_icmp .ne 5, 3)) DX6_heir_b0 8 rfl
theorem dX6_heir_19 : decode cX6_heir 19 = .ok (.iconst (-1), 1) := of_row (r := (19, .iconst (-1), 1)) DX6_heir_b0 9 rfl
theorem dX6_heir_20 : decode cX6_heir 20 = .ok (.ireturn, 1) := of_row (r := (20, .ireturn, 1)) DX6_heir_b0 10 rfl
theorem dX6_heir_21 : decode cX6_heir 21 = .ok (.iconst 0, 1) := of_row (r := (21, .iconst 0, 1)) DX6_heir_b0 11 rfl
theorem dX6_heir_22 : decode cX6_heir 22 = .ok (.istore_n 3, 1) := of_row (r := (22, .istore_n 3, 1)) DX6_heir_b0 12 rfl
theorem dX6_heir_23 : decode cX6_heir 23 = .ok (.iconst 0, 1) := of_row (r := (23, .iconst 0, 1)) DX6_heir_b0 13 rfl
theorem dX6_heir_24 : decode cX6_heir 24 = .ok (.istore 4, 2) := of_row (r := (24, .istore 4, 2)) DX6_heir_b0 14 rfl
theorem dX6_heir_26 : decode cX6_heir 26 = .ok (.iload 4, 2) := of_row (r := (26, .iload 4, 2)) DX6_heir_b0 15 rfl
theorem dX6_heir_28 : decode cX6_heir 28 = .ok (.aload_n 0, 1) := of_row (r := (28, .aload_n 0, 1)) DX6_heir_b0 16 rfl
theorem dX6_heir_29 : decode cX6_heir 29 = .ok (.getfield 65, 3) := of_row (r := (29, .getfield 65, 3)) DX6_heir_b0 17 rfl
theorem dX6_heir_32 : decode cX6_heir 32 = .ok (.getfield 155, 3) := of_row (r := (32, .getfield 155, 3)) DX6_heir_b0 18 rfl
theorem dX6_heir_35 : decode cX6_heir 35 = .ok (.if_icmp .ge 29, 3) := of_row (r := (35, .if_icmp .ge 29, 3)) DX6_heir_b0 19 rfl
theorem dX6_heir_38 : decode cX6_heir 38 = .ok (.aload_n 0, 1) := of_row (r := (38, .aload_n 0, 1)) DX6_heir_b0 20 rfl
theorem dX6_heir_39 : decode cX6_heir 39 = .ok (.iload 4, 2) := of_row (r := (39, .iload 4, 2)) DX6_heir_b0 21 rfl
theorem dX6_heir_41 : decode cX6_heir 41 = .ok (.iload_n 1, 1) := of_row (r := (41, .iload_n 1, 1)) DX6_heir_b0 22 rfl
theorem dX6_heir_42 : decode cX6_heir 42 = .ok (.invokevirtual 195, 3) := of_row (r := (42, .invokevirtual 195, 3)) DX6_heir_b0 23 rfl
theorem dX6_heir_45 : decode cX6_heir 45 = .ok (.ifCond .eq 13, 3) := of_row (r := (45, .ifCond .eq 13, 3)) DX6_heir_b0 24 rfl
theorem dX6_heir_48 : decode cX6_heir 48 = .ok (.aload_n 0, 1) := of_row (r := (48, .aload_n 0, 1)) DX6_heir_b0 25 rfl
theorem dX6_heir_49 : decode cX6_heir 49 = .ok (.iload 4, 2) := of_row (r := (49, .iload 4, 2)) DX6_heir_b0 26 rfl
theorem dX6_heir_51 : decode cX6_heir 51 = .ok (.iload_n 2, 1) := of_row (r := (51, .iload_n 2, 1)) DX6_heir_b0 27 rfl
theorem dX6_heir_52 : decode cX6_heir 52 = .ok (.invokevirtual 199, 3) := of_row (r := (52, .invokevirtual 199, 3)) DX6_heir_b0 28 rfl
theorem dX6_heir_55 : decode cX6_heir 55 = .ok (.iinc 3 1, 3) := of_row (r := (55, .iinc 3 1, 3)) DX6_heir_b0 29 rfl
theorem dX6_heir_58 : decode cX6_heir 58 = .ok (.iinc 4 1, 3) := of_row (r := (58, .iinc 4 1, 3)) DX6_heir_b0 30 rfl
theorem dX6_heir_61 : decode cX6_heir 61 = .ok (.goto (-35), 3) := of_row (r := (61, .goto (-35), 3)) DX6_heir_b0 31 rfl
theorem dX6_heir_64 : decode cX6_heir 64 = .ok (.aload_n 0, 1) := of_row (r := (64, .aload_n 0, 1)) DX6_heir_b0 32 rfl
theorem dX6_heir_65 : decode cX6_heir 65 = .ok (.getfield 47, 3) := of_row (r := (65, .getfield 47, 3)) DX6_heir_b0 33 rfl
theorem dX6_heir_68 : decode cX6_heir 68 = .ok (.iload_n 2, 1) := of_row (r := (68, .iload_n 2, 1)) DX6_heir_b0 34 rfl
theorem dX6_heir_69 : decode cX6_heir 69 = .ok (.dup2, 1) := of_row (r := (69, .dup2, 1)) DX6_heir_b0 35 rfl
theorem dX6_heir_70 : decode cX6_heir 70 = .ok (.laload, 1) := of_row (r := (70, .laload, 1)) DX6_heir_b0 36 rfl
theorem dX6_heir_71 : decode cX6_heir 71 = .ok (.aload_n 0, 1) := of_row (r := (71, .aload_n 0, 1)) DX6_heir_b0 37 rfl
theorem dX6_heir_72 : decode cX6_heir 72 = .ok (.getfield 47, 3) := of_row (r := (72, .getfield 47, 3)) DX6_heir_b0 38 rfl
theorem dX6_heir_75 : decode cX6_heir 75 = .ok (.iload_n 1, 1) := of_row (r := (75, .iload_n 1, 1)) DX6_heir_b0 39 rfl
theorem dX6_heir_76 : decode cX6_heir 76 = .ok (.laload, 1) := of_row (r := (76, .laload, 1)) DX6_heir_b0 40 rfl
theorem dX6_heir_77 : decode cX6_heir 77 = .ok (.ladd, 1) := of_row (r := (77, .ladd, 1)) DX6_heir_b0 41 rfl
theorem dX6_heir_78 : decode cX6_heir 78 = .ok (.lastore, 1) := of_row (r := (78, .lastore, 1)) DX6_heir_b0 42 rfl
theorem dX6_heir_79 : decode cX6_heir 79 = .ok (.aload_n 0, 1) := of_row (r := (79, .aload_n 0, 1)) DX6_heir_b0 43 rfl
theorem dX6_heir_80 : decode cX6_heir 80 = .ok (.getfield 47, 3) := of_row (r := (80, .getfield 47, 3)) DX6_heir_b0 44 rfl
theorem dX6_heir_83 : decode cX6_heir 83 = .ok (.iload_n 1, 1) := of_row (r := (83, .iload_n 1, 1)) DX6_heir_b0 45 rfl
theorem dX6_heir_84 : decode cX6_heir 84 = .ok (.lconst 0, 1) := of_row (r := (84, .lconst 0, 1)) DX6_heir_b0 46 rfl
theorem dX6_heir_85 : decode cX6_heir 85 = .ok (.lastore, 1) := of_row (r := (85, .lastore, 1)) DX6_heir_b0 47 rfl
theorem dX6_heir_86 : decode cX6_heir 86 = .ok (.iload_n 3, 1) := of_row (r := (86, .iload_n 3, 1)) DX6_heir_b0 48 rfl
theorem dX6_heir_87 : decode cX6_heir 87 = .ok (.ireturn, 1) := of_row (r := (87, .ireturn, 1)) DX6_heir_b0 49 rfl
set_option maxRecDepth 20000 in
theorem DX6_about_b0 : ([(0, .aload_n 0, 1), (1, .getfield 65, 3), (4, .iload_n 1, 1), (5, .iload_n 2, 1), (6, .invokevirtual 202, 3), (9, .ifCond .eq 15, 3), (12, .aload_n 0, 1), (13, .getfield 65, 3), (16, .iload_n 1, 1), (17, .iload_n 2, 1), (18, .invokevirtual 139, 3), (21, .goto 5, 3), (24, .bipush (-2), 2), (26, .ireturn, 1)] : List (Nat × Instr × Nat)).all (fun r => decide (decode cX6_about r.1 = .ok r.2)) = true := by decide +kernel
theorem dX6_about_0 : decode cX6_about 0 = .ok (.aload_n 0, 1) := of_row (r := (0, .aload_n 0, 1)) DX6_about_b0 0 rfl
theorem dX6_about_1 : decode cX6_about 1 = .ok (.getfield 65, 3) := of_row (r := (1, .getfield 65, 3)) DX6_about_b0 1 rfl
theorem dX6_about_4 : decode cX6_about 4 = .ok (.iload_n 1, 1) := of_row (r := (4, .iload_n 1, 1)) DX6_about_b0 2 rfl
theorem dX6_about_5 : decode cX6_about 5 = .ok (.iload_n 2, 1) := of_row (r := (5, .iload_n 2, 1)) DX6_about_b0 3 rfl
theorem dX6_about_6 : decode cX6_about 6 = .ok (.invokevirtual 202, 3) := of_row (r := (6, .invokevirtual 202, 3)) DX6_about_b0 4 rfl
theorem dX6_about_9 : decode cX6_about 9 = .ok (.ifCond .eq 15, 3) := of_row (r := (9, .ifCond .eq 15, 3)) DX6_about_b0 5 rfl
theorem dX6_about_12 : decode cX6_about 12 = .ok (.aload_n 0, 1) := of_row (r := (12, .aload_n 0, 1)) DX6_about_b0 6 rfl
theorem dX6_about_13 : decode cX6_about 13 = .ok (.getfield 65, 3) := of_row (r := (13, .getfield 65, 3)) DX6_about_b0 7 rfl
theorem dX6_about_16 : decode cX6_about 16 = .ok (.iload_n 1, 1) := of_row (r := (16, .iload_n 1, 1)) DX6_about_b0 8 rfl
theorem dX6_about_17 : decode cX6_about 17 = .ok (.iload_n 2, 1) := of_row (r := (17, .iload_n 2, 1)) DX6_about_b0 9 rfl
theorem dX6_about_18 : decode cX6_about 18 = .ok (.invokevirtual 139, 3) := of_row (r := (18, .invokevirtual 139, 3)) DX6_about_b0 10 rfl
theorem dX6_about_21 : decode cX6_about 21 = .ok (.goto 5, 3) := of_row (r := (21, .goto 5, 3)) DX6_about_b0 11 rfl
theorem dX6_about_24 : decode cX6_about 24 = .ok (.bipush (-2), 2) := of_row (r := (24, .bipush (-2), 2)) DX6_about_b0 12 rfl
theorem dX6_about_26 : decode cX6_about 26 = .ok (.ireturn, 1) := of_row (r := (26, .ireturn, 1)) DX6_about_b0 13 rfl
set_option maxRecDepth 20000 in
theorem DX6_owe_b0 : ([(0, .iload_n 1, 1), (1, .invokestatic 166, 3), (4, .ifCond .ne 7, 3), (7, .ldc2_w 205, 3), (10, .lreturn, 1), (11, .iload_n 2, 1), (12, .tableswitch 90 0 4 #[36, 42, 49, 64, 71], 36), (48, .aload_n 0, 1), (49, .iload_n 1, 1), (50, .invokevirtual 143, 3), (53, .lreturn, 1), (54, .aload_n 0, 1), (55, .getfield 47, 3), (58, .iload_n 1, 1), (59, .laload, 1), (60, .lreturn, 1), (61, .aload_n 0, 1), (62, .getfield 51, 3), (65, .iload_n 1, 1), (66, .baload, 1), (67, .ifCond .eq 7, 3), (70, .lconst 1, 1), (71, .goto 4, 3), (74, .lconst 0, 1), (75, .lreturn, 1), (76, .aload_n 0, 1), (77, .iload_n 1, 1), (78, .invokevirtual 184, 3), (81, .i2l, 1), (82, .lreturn, 1), (83, .aload_n 0, 1), (84, .getfield 55, 3), (87, .iload_n 1, 1), (88, .iaload, 1), (89, .aload_n 0, 1), (90, .getfield 120, 3), (93, .if_icmp .ne 7, 3), (96, .lconst 1, 1), (97, .goto 4, 3), (100, .lconst 0, 1), (101, .lreturn, 1), (102, .ldc2_w 205, 3), (105, .lreturn, 1)] : List (Nat × Instr × Nat)).all (fun r => decide (decode cX6_owe r.1 = .ok r.2)) = true := by decide +kernel
theorem dX6_owe_0 : decode cX6_owe 0 = .ok (.iload_n 1, 1) := of_row (r := (0, .iload_n 1, 1)) DX6_owe_b0 0 rfl
theorem dX6_owe_1 : decode cX6_owe 1 = .ok (.invokestatic 166, 3) := of_row (r := (1, .invokestatic 166, 3)) DX6_owe_b0 1 rfl
theorem dX6_owe_4 : decode cX6_owe 4 = .ok (.ifCond .ne 7, 3) := of_row (r := (4, .ifCond .ne 7, 3)) DX6_owe_b0 2 rfl
theorem dX6_owe_7 : decode cX6_owe 7 = .ok (.ldc2_w 205, 3) := of_row (r := (7, .ldc2_w 205, 3)) DX6_owe_b0 3 rfl
theorem dX6_owe_10 : decode cX6_owe 10 = .ok (.lreturn, 1) := of_row (r := (10, .lreturn, 1)) DX6_owe_b0 4 rfl
theorem dX6_owe_11 : decode cX6_owe 11 = .ok (.iload_n 2, 1) := of_row (r := (11, .iload_n 2, 1)) DX6_owe_b0 5 rfl
theorem dX6_owe_12 : decode cX6_owe 12 = .ok (.tableswitch 90 0 4 #[36, 42, 49, 64, 71], 36) := of_row (r := (12, .tableswitch 90 0 4 #[36, 42, 49, 64, 71], 36)) DX6_owe_b0 6 rfl
theorem dX6_owe_48 : decode cX6_owe 48 = .ok (.aload_n 0, 1) := of_row (r := (48, .aload_n 0, 1)) DX6_owe_b0 7 rfl
theorem dX6_owe_49 : decode cX6_owe 49 = .ok (.iload_n 1, 1) := of_row (r := (49, .iload_n 1, 1)) DX6_owe_b0 8 rfl
theorem dX6_owe_50 : decode cX6_owe 50 = .ok (.invokevirtual 143, 3) := of_row (r := (50, .invokevirtual 143, 3)) DX6_owe_b0 9 rfl
theorem dX6_owe_53 : decode cX6_owe 53 = .ok (.lreturn, 1) := of_row (r := (53, .lreturn, 1)) DX6_owe_b0 10 rfl
theorem dX6_owe_54 : decode cX6_owe 54 = .ok (.aload_n 0, 1) := of_row (r := (54, .aload_n 0, 1)) DX6_owe_b0 11 rfl
theorem dX6_owe_55 : decode cX6_owe 55 = .ok (.getfield 47, 3) := of_row (r := (55, .getfield 47, 3)) DX6_owe_b0 12 rfl
theorem dX6_owe_58 : decode cX6_owe 58 = .ok (.iload_n 1, 1) := of_row (r := (58, .iload_n 1, 1)) DX6_owe_b0 13 rfl
theorem dX6_owe_59 : decode cX6_owe 59 = .ok (.laload, 1) := of_row (r := (59, .laload, 1)) DX6_owe_b0 14 rfl
theorem dX6_owe_60 : decode cX6_owe 60 = .ok (.lreturn, 1) := of_row (r := (60, .lreturn, 1)) DX6_owe_b0 15 rfl
theorem dX6_owe_61 : decode cX6_owe 61 = .ok (.aload_n 0, 1) := of_row (r := (61, .aload_n 0, 1)) DX6_owe_b0 16 rfl
theorem dX6_owe_62 : decode cX6_owe 62 = .ok (.getfield 51, 3) := of_row (r := (62, .getfield 51, 3)) DX6_owe_b0 17 rfl
theorem dX6_owe_65 : decode cX6_owe 65 = .ok (.iload_n 1, 1) := of_row (r := (65, .iload_n 1, 1)) DX6_owe_b0 18 rfl
theorem dX6_owe_66 : decode cX6_owe 66 = .ok (.baload, 1) := of_row (r := (66, .baload, 1)) DX6_owe_b0 19 rfl
theorem dX6_owe_67 : decode cX6_owe 67 = .ok (.ifCond .eq 7, 3) := of_row (r := (67, .ifCond .eq 7, 3)) DX6_owe_b0 20 rfl
theorem dX6_owe_70 : decode cX6_owe 70 = .ok (.lconst 1, 1) := of_row (r := (70, .lconst 1, 1)) DX6_owe_b0 21 rfl
theorem dX6_owe_71 : decode cX6_owe 71 = .ok (.goto 4, 3) := of_row (r := (71, .goto 4, 3)) DX6_owe_b0 22 rfl
theorem dX6_owe_74 : decode cX6_owe 74 = .ok (.lconst 0, 1) := of_row (r := (74, .lconst 0, 1)) DX6_owe_b0 23 rfl
theorem dX6_owe_75 : decode cX6_owe 75 = .ok (.lreturn, 1) := of_row (r := (75, .lreturn, 1)) DX6_owe_b0 24 rfl
theorem dX6_owe_76 : decode cX6_owe 76 = .ok (.aload_n 0, 1) := of_row (r := (76, .aload_n 0, 1)) DX6_owe_b0 25 rfl
theorem dX6_owe_77 : decode cX6_owe 77 = .ok (.iload_n 1, 1) := of_row (r := (77, .iload_n 1, 1)) DX6_owe_b0 26 rfl
theorem dX6_owe_78 : decode cX6_owe 78 = .ok (.invokevirtual 184, 3) := of_row (r := (78, .invokevirtual 184, 3)) DX6_owe_b0 27 rfl
theorem dX6_owe_81 : decode cX6_owe 81 = .ok (.i2l, 1) := of_row (r := (81, .i2l, 1)) DX6_owe_b0 28 rfl
theorem dX6_owe_82 : decode cX6_owe 82 = .ok (.lreturn, 1) := of_row (r := (82, .lreturn, 1)) DX6_owe_b0 29 rfl
theorem dX6_owe_83 : decode cX6_owe 83 = .ok (.aload_n 0, 1) := of_row (r := (83, .aload_n 0, 1)) DX6_owe_b0 30 rfl
theorem dX6_owe_84 : decode cX6_owe 84 = .ok (.getfield 55, 3) := of_row (r := (84, .getfield 55, 3)) DX6_owe_b0 31 rfl
theorem dX6_owe_87 : decode cX6_owe 87 = .ok (.iload_n 1, 1) := of_row (r := (87, .iload_n 1, 1)) DX6_owe_b0 32 rfl
theorem dX6_owe_88 : decode cX6_owe 88 = .ok (.iaload, 1) := of_row (r := (88, .iaload, 1)) DX6_owe_b0 33 rfl
theorem dX6_owe_89 : decode cX6_owe 89 = .ok (.aload_n 0, 1) := of_row (r := (89, .aload_n 0, 1)) DX6_owe_b0 34 rfl
theorem dX6_owe_90 : decode cX6_owe 90 = .ok (.getfield 120, 3) := of_row (r := (90, .getfield 120, 3)) DX6_owe_b0 35 rfl
theorem dX6_owe_93 : decode cX6_owe 93 = .ok (.if_icmp .ne 7, 3) := of_row (r := (93, .if_icmp .ne 7, 3)) DX6_owe_b0 36 rfl
theorem dX6_owe_96 : decode cX6_owe 96 = .ok (.lconst 1, 1) := of_row (r := (96, .lconst 1, 1)) DX6_owe_b0 37 rfl
theorem dX6_owe_97 : decode cX6_owe 97 = .ok (.goto 4, 3) := of_row (r := (97, .goto 4, 3)) DX6_owe_b0 38 rfl
theorem dX6_owe_100 : decode cX6_owe 100 = .ok (.lconst 0, 1) := of_row (r := (100, .lconst 0, 1)) DX6_owe_b0 39 rfl
theorem dX6_owe_101 : decode cX6_owe 101 = .ok (.lreturn, 1) := of_row (r := (101, .lreturn, 1)) DX6_owe_b0 40 rfl
theorem dX6_owe_102 : decode cX6_owe 102 = .ok (.ldc2_w 205, 3) := of_row (r := (102, .ldc2_w 205, 3)) DX6_owe_b0 41 rfl
theorem dX6_owe_105 : decode cX6_owe 105 = .ok (.lreturn, 1) := of_row (r := (105, .lreturn, 1)) DX6_owe_b0 42 rfl
set_option maxRecDepth 20000 in
theorem DX6_isPerson_b0 : ([(0, .iload_n 0, 1), (1, .ifCond .lt 13, 3), (4, .iload_n 0, 1), (5, .bipush 16, 2), (7, .if_icmp .ge 7, 3), (10, .iconst 1, 1), (11, .goto 4, 3), (14, .iconst 0, 1), (15, .ireturn, 1)] : List (Nat × Instr × Nat)).all (fun r => decide (decode cX6_isPerson r.1 = .ok r.2)) = true := by decide +kernel
theorem dX6_isPerson_0 : decode cX6_isPerson 0 = .ok (.iload_n 0, 1) := of_row (r := (0, .iload_n 0, 1)) DX6_isPerson_b0 0 rfl
theorem dX6_isPerson_1 : decode cX6_isPerson 1 = .ok (.ifCond .lt 13, 3) := of_row (r := (1, .ifCond .lt 13, 3)) DX6_isPerson_b0 1 rfl
theorem dX6_isPerson_4 : decode cX6_isPerson 4 = .ok (.iload_n 0, 1) := of_row (r := (4, .iload_n 0, 1)) DX6_isPerson_b0 2 rfl
theorem dX6_isPerson_5 : decode cX6_isPerson 5 = .ok (.bipush 16, 2) := of_row (r := (5, .bipush 16, 2)) DX6_isPerson_b0 3 rfl
theorem dX6_isPerson_7 : decode cX6_isPerson 7 = .ok (.if_icmp .ge 7, 3) := of_row (r := (7, .if_icmp .ge 7, 3)) DX6_isPerson_b0 4 rfl
theorem dX6_isPerson_10 : decode cX6_isPerson 10 = .ok (.iconst 1, 1) := of_row (r := (10, .iconst 1, 1)) DX6_isPerson_b0 5 rfl
theorem dX6_isPerson_11 : decode cX6_isPerson 11 = .ok (.goto 4, 3) := of_row (r := (11, .goto 4, 3)) DX6_isPerson_b0 6 rfl
theorem dX6_isPerson_14 : decode cX6_isPerson 14 = .ok (.iconst 0, 1) := of_row (r := (14, .iconst 0, 1)) DX6_isPerson_b0 7 rfl
theorem dX6_isPerson_15 : decode cX6_isPerson 15 = .ok (.ireturn, 1) := of_row (r := (15, .ireturn, 1)) DX6_isPerson_b0 8 rfl
set_option maxRecDepth 20000 in
theorem DX6_isSum_b0 : ([(0, .iload_n 0, 1), (1, .iconst 1, 1), (2, .if_icmp .lt 13, 3), (5, .iload_n 0, 1), (6, .ldc 183, 2), (8, .if_icmp .gt 7, 3), (11, .iconst 1, 1), (12, .goto 4, 3), (15, .iconst 0, 1), (16, .ireturn, 1)] : List (Nat × Instr × Nat)).all (fun r => decide (decode cX6_isSum r.1 = .ok r.2)) = true := by decide +kernel
theorem dX6_isSum_0 : decode cX6_isSum 0 = .ok (.iload_n 0, 1) := of_row (r := (0, .iload_n 0, 1)) DX6_isSum_b0 0 rfl
theorem dX6_isSum_1 : decode cX6_isSum 1 = .ok (.iconst 1, 1) := of_row (r := (1, .iconst 1, 1)) DX6_isSum_b0 1 rfl
theorem dX6_isSum_2 : decode cX6_isSum 2 = .ok (.if_icmp .lt 13, 3) := of_row (r := (2, .if_icmp .lt 13, 3)) DX6_isSum_b0 2 rfl
theorem dX6_isSum_5 : decode cX6_isSum 5 = .ok (.iload_n 0, 1) := of_row (r := (5, .iload_n 0, 1)) DX6_isSum_b0 3 rfl
theorem dX6_isSum_6 : decode cX6_isSum 6 = .ok (.ldc 183, 2) := of_row (r := (6, .ldc 183, 2)) DX6_isSum_b0 4 rfl
theorem dX6_isSum_8 : decode cX6_isSum 8 = .ok (.if_icmp .gt 7, 3) := of_row (r := (8, .if_icmp .gt 7, 3)) DX6_isSum_b0 5 rfl
theorem dX6_isSum_11 : decode cX6_isSum 11 = .ok (.iconst 1, 1) := of_row (r := (11, .iconst 1, 1)) DX6_isSum_b0 6 rfl
theorem dX6_isSum_12 : decode cX6_isSum 12 = .ok (.goto 4, 3) := of_row (r := (12, .goto 4, 3)) DX6_isSum_b0 7 rfl
theorem dX6_isSum_15 : decode cX6_isSum 15 = .ok (.iconst 0, 1) := of_row (r := (15, .iconst 0, 1)) DX6_isSum_b0 8 rfl
theorem dX6_isSum_16 : decode cX6_isSum 16 = .ok (.ireturn, 1) := of_row (r := (16, .ireturn, 1)) DX6_isSum_b0 9 rfl
set_option maxRecDepth 20000 in
theorem DX6_isHeld_b0 : ([(0, .iload_n 1, 1), (1, .invokestatic 166, 3), (4, .ifCond .eq 16, 3), (7, .aload_n 0, 1), (8, .getfield 51, 3), (11, .iload_n 1, 1), (12, .baload, 1), (13, .ifCond .eq 7, 3), (16, .iconst 1, 1), (17, .goto 4, 3), (20, .iconst 0, 1), (21, .ireturn, 1)] : List (Nat × Instr × Nat)).all (fun r => decide (decode cX6_isHeld r.1 = .ok r.2)) = true := by decide +kernel
theorem dX6_isHeld_0 : decode cX6_isHeld 0 = .ok (.iload_n 1, 1) := of_row (r := (0, .iload_n 1, 1)) DX6_isHeld_b0 0 rfl
theorem dX6_isHeld_1 : decode cX6_isHeld 1 = .ok (.invokestatic 166, 3) := of_row (r := (1, .invokestatic 166, 3)) DX6_isHeld_b0 1 rfl
theorem dX6_isHeld_4 : decode cX6_isHeld 4 = .ok (.ifCond .eq 16, 3) := of_row (r := (4, .ifCond .eq 16, 3)) DX6_isHeld_b0 2 rfl
theorem dX6_isHeld_7 : decode cX6_isHeld 7 = .ok (.aload_n 0, 1) := of_row (r := (7, .aload_n 0, 1)) DX6_isHeld_b0 3 rfl
theorem dX6_isHeld_8 : decode cX6_isHeld 8 = .ok (.getfield 51, 3) := of_row (r := (8, .getfield 51, 3)) DX6_isHeld_b0 4 rfl
theorem dX6_isHeld_11 : decode cX6_isHeld 11 = .ok (.iload_n 1, 1) := of_row (r := (11, .iload_n 1, 1)) DX6_isHeld_b0 5 rfl
theorem dX6_isHeld_12 : decode cX6_isHeld 12 = .ok (.baload, 1) := of_row (r := (12, .baload, 1)) DX6_isHeld_b0 6 rfl
theorem dX6_isHeld_13 : decode cX6_isHeld 13 = .ok (.ifCond .eq 7, 3) := of_row (r := (13, .ifCond .eq 7, 3)) DX6_isHeld_b0 7 rfl
theorem dX6_isHeld_16 : decode cX6_isHeld 16 = .ok (.iconst 1, 1) := of_row (r := (16, .iconst 1, 1)) DX6_isHeld_b0 8 rfl
theorem dX6_isHeld_17 : decode cX6_isHeld 17 = .ok (.goto 4, 3) := of_row (r := (17, .goto 4, 3)) DX6_isHeld_b0 9 rfl
theorem dX6_isHeld_20 : decode cX6_isHeld 20 = .ok (.iconst 0, 1) := of_row (r := (20, .iconst 0, 1)) DX6_isHeld_b0 10 rfl
theorem dX6_isHeld_21 : decode cX6_isHeld 21 = .ok (.ireturn, 1) := of_row (r := (21, .ireturn, 1)) DX6_isHeld_b0 11 rfl
set_option maxRecDepth 20000 in
theorem DX6_isOwed_b0 : ([(0, .aload_n 0, 1), (1, .getfield 65, 3), (4, .iload_n 1, 1), (5, .iconst 3, 1), (6, .invokevirtual 202, 3), (9, .ifCond .eq 19, 3), (12, .aload_n 0, 1), (13, .getfield 65, 3), (16, .iload_n 1, 1), (17, .iconst 3, 1), (18, .invokevirtual 139, 3), (21, .ifCond .le 7, 3), (24, .iconst 1, 1), (25, .goto 4, 3), (28, .iconst 0, 1), (29, .ireturn, 1)] : List (Nat × Instr × Nat)).all (fun r => decide (decode cX6_isOwed r.1 = .ok r.2)) = true := by decide +kernel
theorem dX6_isOwed_0 : decode cX6_isOwed 0 = .ok (.aload_n 0, 1) := of_row (r := (0, .aload_n 0, 1)) DX6_isOwed_b0 0 rfl
theorem dX6_isOwed_1 : decode cX6_isOwed 1 = .ok (.getfield 65, 3) := of_row (r := (1, .getfield 65, 3)) DX6_isOwed_b0 1 rfl
theorem dX6_isOwed_4 : decode cX6_isOwed 4 = .ok (.iload_n 1, 1) := of_row (r := (4, .iload_n 1, 1)) DX6_isOwed_b0 2 rfl
theorem dX6_isOwed_5 : decode cX6_isOwed 5 = .ok (.iconst 3, 1) := of_row (r := (5, .iconst 3, 1)) DX6_isOwed_b0 3 rfl
theorem dX6_isOwed_6 : decode cX6_isOwed 6 = .ok (.invokevirtual 202, 3) := of_row (r := (6, .invokevirtual 202, 3)) DX6_isOwed_b0 4 rfl
theorem dX6_isOwed_9 : decode cX6_isOwed 9 = .ok (.ifCond .eq 19, 3) := of_row (r := (9, .ifCond .eq 19, 3)) DX6_isOwed_b0 5 rfl
theorem dX6_isOwed_12 : decode cX6_isOwed 12 = .ok (.aload_n 0, 1) := of_row (r := (12, .aload_n 0, 1)) DX6_isOwed_b0 6 rfl
theorem dX6_isOwed_13 : decode cX6_isOwed 13 = .ok (.getfield 65, 3) := of_row (r := (13, .getfield 65, 3)) DX6_isOwed_b0 7 rfl
theorem dX6_isOwed_16 : decode cX6_isOwed 16 = .ok (.iload_n 1, 1) := of_row (r := (16, .iload_n 1, 1)) DX6_isOwed_b0 8 rfl
theorem dX6_isOwed_17 : decode cX6_isOwed 17 = .ok (.iconst 3, 1) := of_row (r := (17, .iconst 3, 1)) DX6_isOwed_b0 9 rfl
theorem dX6_isOwed_18 : decode cX6_isOwed 18 = .ok (.invokevirtual 139, 3) := of_row (r := (18, .invokevirtual 139, 3)) DX6_isOwed_b0 10 rfl
theorem dX6_isOwed_21 : decode cX6_isOwed 21 = .ok (.ifCond .le 7, 3) := of_row (r := (21, .ifCond .le 7, 3)) DX6_isOwed_b0 11 rfl
theorem dX6_isOwed_24 : decode cX6_isOwed 24 = .ok (.iconst 1, 1) := of_row (r := (24, .iconst 1, 1)) DX6_isOwed_b0 12 rfl
theorem dX6_isOwed_25 : decode cX6_isOwed 25 = .ok (.goto 4, 3) := of_row (r := (25, .goto 4, 3)) DX6_isOwed_b0 13 rfl
theorem dX6_isOwed_28 : decode cX6_isOwed 28 = .ok (.iconst 0, 1) := of_row (r := (28, .iconst 0, 1)) DX6_isOwed_b0 14 rfl
theorem dX6_isOwed_29 : decode cX6_isOwed 29 = .ok (.ireturn, 1) := of_row (r := (29, .ireturn, 1)) DX6_isOwed_b0 15 rfl
set_option maxRecDepth 20000 in
theorem DX6_isOwedBy_b0 : ([(0, .aload_n 0, 1), (1, .iload_n 1, 1), (2, .invokevirtual 135, 3), (5, .ifCond .eq 20, 3), (8, .aload_n 0, 1), (9, .getfield 65, 3), (12, .iload_n 1, 1), (13, .iconst 0, 1), (14, .invokevirtual 139, 3), (17, .iload_n 2, 1), (18, .if_icmp .ne 7, 3), (21, .iconst 1, 1), (22, .goto 4, 3), (25, .iconst 0, 1), (26, .ireturn, 1)] : List (Nat × Instr × Nat)).all (fun r => decide (decode cX6_isOwedBy r.1 = .ok r.2)) = true := by decide +kernel
theorem dX6_isOwedBy_0 : decode cX6_isOwedBy 0 = .ok (.aload_n 0, 1) := of_row (r := (0, .aload_n 0, 1)) DX6_isOwedBy_b0 0 rfl
theorem dX6_isOwedBy_1 : decode cX6_isOwedBy 1 = .ok (.iload_n 1, 1) := of_row (r := (1, .iload_n 1, 1)) DX6_isOwedBy_b0 1 rfl
theorem dX6_isOwedBy_2 : decode cX6_isOwedBy 2 = .ok (.invokevirtual 135, 3) := of_row (r := (2, .invokevirtual 135, 3)) DX6_isOwedBy_b0 2 rfl
theorem dX6_isOwedBy_5 : decode cX6_isOwedBy 5 = .ok (.ifCond .eq 20, 3) := of_row (r := (5, .ifCond .eq 20, 3)) DX6_isOwedBy_b0 3 rfl
theorem dX6_isOwedBy_8 : decode cX6_isOwedBy 8 = .ok (.aload_n 0, 1) := of_row (r := (8, .aload_n 0, 1)) DX6_isOwedBy_b0 4 rfl
theorem dX6_isOwedBy_9 : decode cX6_isOwedBy 9 = .ok (.getfield 65, 3) := of_row (r := (9, .getfield 65, 3)) DX6_isOwedBy_b0 5 rfl
theorem dX6_isOwedBy_12 : decode cX6_isOwedBy 12 = .ok (.iload_n 1, 1) := of_row (r := (12, .iload_n 1, 1)) DX6_isOwedBy_b0 6 rfl
theorem dX6_isOwedBy_13 : decode cX6_isOwedBy 13 = .ok (.iconst 0, 1) := of_row (r := (13, .iconst 0, 1)) DX6_isOwedBy_b0 7 rfl
theorem dX6_isOwedBy_14 : decode cX6_isOwedBy 14 = .ok (.invokevirtual 139, 3) := of_row (r := (14, .invokevirtual 139, 3)) DX6_isOwedBy_b0 8 rfl
theorem dX6_isOwedBy_17 : decode cX6_isOwedBy 17 = .ok (.iload_n 2, 1) := of_row (r := (17, .iload_n 2, 1)) DX6_isOwedBy_b0 9 rfl
theorem dX6_isOwedBy_18 : decode cX6_isOwedBy 18 = .ok (.if_icmp .ne 7, 3) := of_row (r := (18, .if_icmp .ne 7, 3)) DX6_isOwedBy_b0 10 rfl
theorem dX6_isOwedBy_21 : decode cX6_isOwedBy 21 = .ok (.iconst 1, 1) := of_row (r := (21, .iconst 1, 1)) DX6_isOwedBy_b0 11 rfl
theorem dX6_isOwedBy_22 : decode cX6_isOwedBy 22 = .ok (.goto 4, 3) := of_row (r := (22, .goto 4, 3)) DX6_isOwedBy_b0 12 rfl
theorem dX6_isOwedBy_25 : decode cX6_isOwedBy 25 = .ok (.iconst 0, 1) := of_row (r := (25, .iconst 0, 1)) DX6_isOwedBy_b0 13 rfl
theorem dX6_isOwedBy_26 : decode cX6_isOwedBy 26 = .ok (.ireturn, 1) := of_row (r := (26, .ireturn, 1)) DX6_isOwedBy_b0 14 rfl
set_option maxRecDepth 20000 in
theorem DX6_leftOf_b0 : ([(0, .lconst 0, 1), (1, .lstore_n 2, 1), (2, .iconst 0, 1), (3, .istore 4, 2), (5, .iload 4, 2), (7, .aload_n 0, 1), (8, .getfield 65, 3), (11, .getfield 155, 3), (14, .if_icmp .ge 33, 3), (17, .aload_n 0, 1), (18, .iload 4, 2), (20, .iload_n 1, 1), (21, .invokevirtual 195, 3), (24, .ifCond .eq 17, 3), (27, .lload_n 2, 1), (28, .aload_n 0, 1), (29, .getfield 65, 3), (32, .iload 4, 2), (34, .iconst 3, 1), (35, .invokevirtual 139, 3), (38, .i2l, 1), (39, .ladd, 1), (40, .lstore_n 2, 1), (41, .iinc 4 1, 3), (44, .goto (-39), 3), (47, .lload_n 2, 1), (48, .lreturn, 1)] : List (Nat × Instr × Nat)).all (fun r => decide (decode cX6_leftOf r.1 = .ok r.2)) = true := by decide +kernel
theorem dX6_leftOf_0 : decode cX6_leftOf 0 = .ok (.lconst 0, 1) := of_row (r := (0, .lconst 0, 1)) DX6_leftOf_b0 0 rfl
theorem dX6_leftOf_1 : decode cX6_leftOf 1 = .ok (.lstore_n 2, 1) := of_row (r := (1, .lstore_n 2, 1)) DX6_leftOf_b0 1 rfl
theorem dX6_leftOf_2 : decode cX6_leftOf 2 = .ok (.iconst 0, 1) := of_row (r := (2, .iconst 0, 1)) DX6_leftOf_b0 2 rfl
theorem dX6_leftOf_3 : decode cX6_leftOf 3 = .ok (.istore 4, 2) := of_row (r := (3, .istore 4, 2)) DX6_leftOf_b0 3 rfl
theorem dX6_leftOf_5 : decode cX6_leftOf 5 = .ok (.iload 4, 2) := of_row (r := (5, .iload 4, 2)) DX6_leftOf_b0 4 rfl
theorem dX6_leftOf_7 : decode cX6_leftOf 7 = .ok (.aload_n 0, 1) := of_row (r := (7, .aload_n 0, 1)) DX6_leftOf_b0 5 rfl
theorem dX6_leftOf_8 : decode cX6_leftOf 8 = .ok (.getfield 65, 3) := of_row (r := (8, .getfield 65, 3)) DX6_leftOf_b0 6 rfl
theorem dX6_leftOf_11 : decode cX6_leftOf 11 = .ok (.getfield 155, 3) := of_row (r := (11, .getfield 155, 3)) DX6_leftOf_b0 7 rfl
theorem dX6_leftOf_14 : decode cX6_leftOf 14 = .ok (.if_icmp .ge 33, 3) := of_row (r := (14, .if_icmp .ge 33, 3)) DX6_leftOf_b0 8 rfl
theorem dX6_leftOf_17 : decode cX6_leftOf 17 = .ok (.aload_n 0, 1) := of_row (r := (17, .aload_n 0, 1)) DX6_leftOf_b0 9 rfl
theorem dX6_leftOf_18 : decode cX6_leftOf 18 = .ok (.iload 4, 2) := of_row (r := (18, .iload 4, 2)) DX6_leftOf_b0 10 rfl
theorem dX6_leftOf_20 : decode cX6_leftOf 20 = .ok (.iload_n 1, 1) := of_row (r := (20, .iload_n 1, 1)) DX6_leftOf_b0 11 rfl
theorem dX6_leftOf_21 : decode cX6_leftOf 21 = .ok (.invokevirtual 195, 3) := of_row (r := (21, .invokevirtual 195, 3)) DX6_leftOf_b0 12 rfl
theorem dX6_leftOf_24 : decode cX6_leftOf 24 = .ok (.ifCond .eq 17, 3) := of_row (r := (24, .ifCond .eq 17, 3)) DX6_leftOf_b0 13 rfl
theorem dX6_leftOf_27 : decode cX6_leftOf 27 = .ok (.lload_n 2, 1) := of_row (r := (27, .lload_n 2, 1)) DX6_leftOf_b0 14 rfl
theorem dX6_leftOf_28 : decode cX6_leftOf 28 = .ok (.aload_n 0, 1) := of_row (r := (28, .aload_n 0, 1)) DX6_leftOf_b0 15 rfl
theorem dX6_leftOf_29 : decode cX6_leftOf 29 = .ok (.getfield 65, 3) := of_row (r := (29, .getfield 65, 3)) DX6_leftOf_b0 16 rfl
theorem dX6_leftOf_32 : decode cX6_leftOf 32 = .ok (.iload 4, 2) := of_row (r := (32, .iload 4, 2)) DX6_leftOf_b0 17 rfl
theorem dX6_leftOf_34 : decode cX6_leftOf 34 = .ok (.iconst 3, 1) := of_row (r := (34, .iconst 3, 1)) DX6_leftOf_b0 18 rfl
theorem dX6_leftOf_35 : decode cX6_leftOf 35 = .ok (.invokevirtual 139, 3) := of_row (r := (35, .invokevirtual 139, 3)) DX6_leftOf_b0 19 rfl
theorem dX6_leftOf_38 : decode cX6_leftOf 38 = .ok (.i2l, 1) := of_row (r := (38, .i2l, 1)) DX6_leftOf_b0 20 rfl
theorem dX6_leftOf_39 : decode cX6_leftOf 39 = .ok (.ladd, 1) := of_row (r := (39, .ladd, 1)) DX6_leftOf_b0 21 rfl
theorem dX6_leftOf_40 : decode cX6_leftOf 40 = .ok (.lstore_n 2, 1) := of_row (r := (40, .lstore_n 2, 1)) DX6_leftOf_b0 22 rfl
theorem dX6_leftOf_41 : decode cX6_leftOf 41 = .ok (.iinc 4 1, 3) := of_row (r := (41, .iinc 4 1, 3)) DX6_leftOf_b0 23 rfl
theorem dX6_leftOf_44 : decode cX6_leftOf 44 = .ok (.goto (-39), 3) := of_row (r := (44, .goto (-39), 3)) DX6_leftOf_b0 24 rfl
theorem dX6_leftOf_47 : decode cX6_leftOf 47 = .ok (.lload_n 2, 1) := of_row (r := (47, .lload_n 2, 1)) DX6_leftOf_b0 25 rfl
theorem dX6_leftOf_48 : decode cX6_leftOf 48 = .ok (.lreturn, 1) := of_row (r := (48, .lreturn, 1)) DX6_leftOf_b0 26 rfl
set_option maxRecDepth 20000 in
theorem DX6_owedDebtsOf_b0 : ([(0, .iconst 0, 1), (1, .istore_n 2, 1), (2, .iconst 0, 1), (3, .istore_n 3, 1), (4, .iload_n 3, 1), (5, .aload_n 0, 1), (6, .getfield 65, 3), (9, .getfield 155, 3), (12, .if_icmp .ge 21, 3), (15, .aload_n 0, 1), (16, .iload_n 3, 1), (17, .iload_n 1, 1), (18, .invokevirtual 195, 3), (21, .ifCond .eq 6, 3), (24, .iinc 2 1, 3), (27, .iinc 3 1, 3), (30, .goto (-26), 3), (33, .iload_n 2, 1), (34, .ireturn, 1)] : List (Nat × Instr × Nat)).all (fun r => decide (decode cX6_owedDebtsOf r.1 = .ok r.2)) = true := by decide +kernel
theorem dX6_owedDebtsOf_0 : decode cX6_owedDebtsOf 0 = .ok (.iconst 0, 1) := of_row (r := (0, .iconst 0, 1)) DX6_owedDebtsOf_b0 0 rfl
theorem dX6_owedDebtsOf_1 : decode cX6_owedDebtsOf 1 = .ok (.istore_n 2, 1) := of_row (r := (1, .istore_n 2, 1)) DX6_owedDebtsOf_b0 1 rfl
theorem dX6_owedDebtsOf_2 : decode cX6_owedDebtsOf 2 = .ok (.iconst 0, 1) := of_row (r := (2, .iconst 0, 1)) DX6_owedDebtsOf_b0 2 rfl
theorem dX6_owedDebtsOf_3 : decode cX6_owedDebtsOf 3 = .ok (.istore_n 3, 1) := of_row (r := (3, .istore_n 3, 1)) DX6_owedDebtsOf_b0 3 rfl
theorem dX6_owedDebtsOf_4 : decode cX6_owedDebtsOf 4 = .ok (.iload_n 3, 1) := of_row (r := (4, .iload_n 3, 1)) DX6_owedDebtsOf_b0 4 rfl
theorem dX6_owedDebtsOf_5 : decode cX6_owedDebtsOf 5 = .ok (.aload_n 0, 1) := of_row (r := (5, .aload_n 0, 1)) DX6_owedDebtsOf_b0 5 rfl
theorem dX6_owedDebtsOf_6 : decode cX6_owedDebtsOf 6 = .ok (.getfield 65, 3) := of_row (r := (6, .getfield 65, 3)) DX6_owedDebtsOf_b0 6 rfl
theorem dX6_owedDebtsOf_9 : decode cX6_owedDebtsOf 9 = .ok (.getfield 155, 3) := of_row (r := (9, .getfield 155, 3)) DX6_owedDebtsOf_b0 7 rfl
theorem dX6_owedDebtsOf_12 : decode cX6_owedDebtsOf 12 = .ok (.if_icmp .ge 21, 3) := of_row (r := (12, .if_icmp .ge 21, 3)) DX6_owedDebtsOf_b0 8 rfl
theorem dX6_owedDebtsOf_15 : decode cX6_owedDebtsOf 15 = .ok (.aload_n 0, 1) := of_row (r := (15, .aload_n 0, 1)) DX6_owedDebtsOf_b0 9 rfl
theorem dX6_owedDebtsOf_16 : decode cX6_owedDebtsOf 16 = .ok (.iload_n 3, 1) := of_row (r := (16, .iload_n 3, 1)) DX6_owedDebtsOf_b0 10 rfl
theorem dX6_owedDebtsOf_17 : decode cX6_owedDebtsOf 17 = .ok (.iload_n 1, 1) := of_row (r := (17, .iload_n 1, 1)) DX6_owedDebtsOf_b0 11 rfl
theorem dX6_owedDebtsOf_18 : decode cX6_owedDebtsOf 18 = .ok (.invokevirtual 195, 3) := of_row (r := (18, .invokevirtual 195, 3)) DX6_owedDebtsOf_b0 12 rfl
theorem dX6_owedDebtsOf_21 : decode cX6_owedDebtsOf 21 = .ok (.ifCond .eq 6, 3) := of_row (r := (21, .ifCond .eq 6, 3)) DX6_owedDebtsOf_b0 13 rfl
theorem dX6_owedDebtsOf_24 : decode cX6_owedDebtsOf 24 = .ok (.iinc 2 1, 3) := of_row (r := (24, .iinc 2 1, 3)) DX6_owedDebtsOf_b0 14 rfl
theorem dX6_owedDebtsOf_27 : decode cX6_owedDebtsOf 27 = .ok (.iinc 3 1, 3) := of_row (r := (27, .iinc 3 1, 3)) DX6_owedDebtsOf_b0 15 rfl
theorem dX6_owedDebtsOf_30 : decode cX6_owedDebtsOf 30 = .ok (.goto (-26), 3) := of_row (r := (30, .goto (-26), 3)) DX6_owedDebtsOf_b0 16 rfl
theorem dX6_owedDebtsOf_33 : decode cX6_owedDebtsOf 33 = .ok (.iload_n 2, 1) := of_row (r := (33, .iload_n 2, 1)) DX6_owedDebtsOf_b0 17 rfl
theorem dX6_owedDebtsOf_34 : decode cX6_owedDebtsOf 34 = .ok (.ireturn, 1) := of_row (r := (34, .ireturn, 1)) DX6_owedDebtsOf_b0 18 rfl
set_option maxRecDepth 20000 in
theorem DX6_addDebt_b0 : ([(0, .aload_n 0, 1), (1, .getfield 65, 3), (4, .invokevirtual 123, 3), (7, .istore 5, 2), (9, .aload_n 0, 1), (10, .getfield 65, 3), (13, .iload 5, 2), (15, .iconst 0, 1), (16, .iload_n 1, 1), (17, .invokevirtual 127, 3), (20, .aload_n 0, 1), (21, .getfield 65, 3), (24, .iload 5, 2), (26, .iconst 1, 1), (27, .iload_n 2, 1), (28, .invokevirtual 127, 3), (31, .aload_n 0, 1), (32, .getfield 65, 3), (35, .iload 5, 2), (37, .iconst 2, 1), (38, .iload_n 3, 1), (39, .invokevirtual 127, 3), (42, .aload_n 0, 1), (43, .getfield 65, 3), (46, .iload 5, 2), (48, .iconst 3, 1), (49, .iload_n 3, 1), (50, .invokevirtual 127, 3), (53, .aload_n 0, 1), (54, .getfield 65, 3), (57, .iload 5, 2), (59, .iconst 4, 1), (60, .aload_n 0, 1), (61, .getfield 120, 3), (64, .invokevirtual 127, 3), (67, .aload_n 0, 1), (68, .getfield 65, 3), (71, .iload 5, 2), (73, .iconst 5, 1), (74, .iload 4, 2), (76, .invokevirtual 127, 3), (79, .iload 5, 2), (81, .ireturn, 1)] : List (Nat × Instr × Nat)).all (fun r => decide (decode cX6_addDebt r.1 = .ok r.2)) = true := by decide +kernel
theorem dX6_addDebt_0 : decode cX6_addDebt 0 = .ok (.aload_n 0, 1) := of_row (r := (0, .aload_n 0, 1)) DX6_addDebt_b0 0 rfl
theorem dX6_addDebt_1 : decode cX6_addDebt 1 = .ok (.getfield 65, 3) := of_row (r := (1, .getfield 65, 3)) DX6_addDebt_b0 1 rfl
theorem dX6_addDebt_4 : decode cX6_addDebt 4 = .ok (.invokevirtual 123, 3) := of_row (r := (4, .invokevirtual 123, 3)) DX6_addDebt_b0 2 rfl
theorem dX6_addDebt_7 : decode cX6_addDebt 7 = .ok (.istore 5, 2) := of_row (r := (7, .istore 5, 2)) DX6_addDebt_b0 3 rfl
theorem dX6_addDebt_9 : decode cX6_addDebt 9 = .ok (.aload_n 0, 1) := of_row (r := (9, .aload_n 0, 1)) DX6_addDebt_b0 4 rfl
theorem dX6_addDebt_10 : decode cX6_addDebt 10 = .ok (.getfield 65, 3) := of_row (r := (10, .getfield 65, 3)) DX6_addDebt_b0 5 rfl
theorem dX6_addDebt_13 : decode cX6_addDebt 13 = .ok (.iload 5, 2) := of_row (r := (13, .iload 5, 2)) DX6_addDebt_b0 6 rfl
theorem dX6_addDebt_15 : decode cX6_addDebt 15 = .ok (.iconst 0, 1) := of_row (r := (15, .iconst 0, 1)) DX6_addDebt_b0 7 rfl
theorem dX6_addDebt_16 : decode cX6_addDebt 16 = .ok (.iload_n 1, 1) := of_row (r := (16, .iload_n 1, 1)) DX6_addDebt_b0 8 rfl
theorem dX6_addDebt_17 : decode cX6_addDebt 17 = .ok (.invokevirtual 127, 3) := of_row (r := (17, .invokevirtual 127, 3)) DX6_addDebt_b0 9 rfl
theorem dX6_addDebt_20 : decode cX6_addDebt 20 = .ok (.aload_n 0, 1) := of_row (r := (20, .aload_n 0, 1)) DX6_addDebt_b0 10 rfl
theorem dX6_addDebt_21 : decode cX6_addDebt 21 = .ok (.getfield 65, 3) := of_row (r := (21, .getfield 65, 3)) DX6_addDebt_b0 11 rfl
theorem dX6_addDebt_24 : decode cX6_addDebt 24 = .ok (.iload 5, 2) := of_row (r := (24, .iload 5, 2)) DX6_addDebt_b0 12 rfl
theorem dX6_addDebt_26 : decode cX6_addDebt 26 = .ok (.iconst 1, 1) := of_row (r := (26, .iconst 1, 1)) DX6_addDebt_b0 13 rfl
theorem dX6_addDebt_27 : decode cX6_addDebt 27 = .ok (.iload_n 2, 1) := of_row (r := (27, .iload_n 2, 1)) DX6_addDebt_b0 14 rfl
theorem dX6_addDebt_28 : decode cX6_addDebt 28 = .ok (.invokevirtual 127, 3) := of_row (r := (28, .invokevirtual 127, 3)) DX6_addDebt_b0 15 rfl
theorem dX6_addDebt_31 : decode cX6_addDebt 31 = .ok (.aload_n 0, 1) := of_row (r := (31, .aload_n 0, 1)) DX6_addDebt_b0 16 rfl
theorem dX6_addDebt_32 : decode cX6_addDebt 32 = .ok (.getfield 65, 3) := of_row (r := (32, .getfield 65, 3)) DX6_addDebt_b0 17 rfl
theorem dX6_addDebt_35 : decode cX6_addDebt 35 = .ok (.iload 5, 2) := of_row (r := (35, .iload 5, 2)) DX6_addDebt_b0 18 rfl
theorem dX6_addDebt_37 : decode cX6_addDebt 37 = .ok (.iconst 2, 1) := of_row (r := (37, .iconst 2, 1)) DX6_addDebt_b0 19 rfl
theorem dX6_addDebt_38 : decode cX6_addDebt 38 = .ok (.iload_n 3, 1) := of_row (r := (38, .iload_n 3, 1)) DX6_addDebt_b0 20 rfl
theorem dX6_addDebt_39 : decode cX6_addDebt 39 = .ok (.invokevirtual 127, 3) := of_row (r := (39, .invokevirtual 127, 3)) DX6_addDebt_b0 21 rfl
theorem dX6_addDebt_42 : decode cX6_addDebt 42 = .ok (.aload_n 0, 1) := of_row (r := (42, .aload_n 0, 1)) DX6_addDebt_b0 22 rfl
theorem dX6_addDebt_43 : decode cX6_addDebt 43 = .ok (.getfield 65, 3) := of_row (r := (43, .getfield 65, 3)) DX6_addDebt_b0 23 rfl
theorem dX6_addDebt_46 : decode cX6_addDebt 46 = .ok (.iload 5, 2) := of_row (r := (46, .iload 5, 2)) DX6_addDebt_b0 24 rfl
theorem dX6_addDebt_48 : decode cX6_addDebt 48 = .ok (.iconst 3, 1) := of_row (r := (48, .iconst 3, 1)) DX6_addDebt_b0 25 rfl
theorem dX6_addDebt_49 : decode cX6_addDebt 49 = .ok (.iload_n 3, 1) := of_row (r := (49, .iload_n 3, 1)) DX6_addDebt_b0 26 rfl
theorem dX6_addDebt_50 : decode cX6_addDebt 50 = .ok (.invokevirtual 127, 3) := of_row (r := (50, .invokevirtual 127, 3)) DX6_addDebt_b0 27 rfl
theorem dX6_addDebt_53 : decode cX6_addDebt 53 = .ok (.aload_n 0, 1) := of_row (r := (53, .aload_n 0, 1)) DX6_addDebt_b0 28 rfl
theorem dX6_addDebt_54 : decode cX6_addDebt 54 = .ok (.getfield 65, 3) := of_row (r := (54, .getfield 65, 3)) DX6_addDebt_b0 29 rfl
theorem dX6_addDebt_57 : decode cX6_addDebt 57 = .ok (.iload 5, 2) := of_row (r := (57, .iload 5, 2)) DX6_addDebt_b0 30 rfl
theorem dX6_addDebt_59 : decode cX6_addDebt 59 = .ok (.iconst 4, 1) := of_row (r := (59, .iconst 4, 1)) DX6_addDebt_b0 31 rfl
theorem dX6_addDebt_60 : decode cX6_addDebt 60 = .ok (.aload_n 0, 1) := of_row (r := (60, .aload_n 0, 1)) DX6_addDebt_b0 32 rfl
theorem dX6_addDebt_61 : decode cX6_addDebt 61 = .ok (.getfield 120, 3) := of_row (r := (61, .getfield 120, 3)) DX6_addDebt_b0 33 rfl
theorem dX6_addDebt_64 : decode cX6_addDebt 64 = .ok (.invokevirtual 127, 3) := of_row (r := (64, .invokevirtual 127, 3)) DX6_addDebt_b0 34 rfl
theorem dX6_addDebt_67 : decode cX6_addDebt 67 = .ok (.aload_n 0, 1) := of_row (r := (67, .aload_n 0, 1)) DX6_addDebt_b0 35 rfl
theorem dX6_addDebt_68 : decode cX6_addDebt 68 = .ok (.getfield 65, 3) := of_row (r := (68, .getfield 65, 3)) DX6_addDebt_b0 36 rfl
theorem dX6_addDebt_71 : decode cX6_addDebt 71 = .ok (.iload 5, 2) := of_row (r := (71, .iload 5, 2)) DX6_addDebt_b0 37 rfl
theorem dX6_addDebt_73 : decode cX6_addDebt 73 = .ok (.iconst 5, 1) := of_row (r := (73, .iconst 5, 1)) DX6_addDebt_b0 38 rfl
theorem dX6_addDebt_74 : decode cX6_addDebt 74 = .ok (.iload 4, 2) := of_row (r := (74, .iload 4, 2)) DX6_addDebt_b0 39 rfl
theorem dX6_addDebt_76 : decode cX6_addDebt 76 = .ok (.invokevirtual 127, 3) := of_row (r := (76, .invokevirtual 127, 3)) DX6_addDebt_b0 40 rfl
theorem dX6_addDebt_79 : decode cX6_addDebt 79 = .ok (.iload 5, 2) := of_row (r := (79, .iload 5, 2)) DX6_addDebt_b0 41 rfl
theorem dX6_addDebt_81 : decode cX6_addDebt 81 = .ok (.ireturn, 1) := of_row (r := (81, .ireturn, 1)) DX6_addDebt_b0 42 rfl
set_option maxRecDepth 20000 in
theorem DX6_shiresOwing_b0 : ([(0, .iconst 0, 1), (1, .istore_n 1, 1), (2, .iconst 0, 1), (3, .istore_n 2, 1), (4, .iload_n 2, 1), (5, .bipush 8, 2), (7, .if_icmp .ge 31, 3), (10, .aload_n 0, 1), (11, .getfield 59, 3), (14, .iload_n 2, 1), (15, .iaload, 1), (16, .ifCond .le 16, 3), (19, .aload_n 0, 1), (20, .getfield 62, 3), (23, .iload_n 2, 1), (24, .iaload, 1), (25, .iconst (-1), 1), (26, .if_icmp .eq 6, 3), (29, .iinc 1 1, 3), (32, .iinc 2 1, 3), (35, .goto (-31), 3), (38, .iload_n 1, 1), (39, .ireturn, 1)] : List (Nat × Instr × Nat)).all (fun r => decide (decode cX6_shiresOwing r.1 = .ok r.2)) = true := by decide +kernel
theorem dX6_shiresOwing_0 : decode cX6_shiresOwing 0 = .ok (.iconst 0, 1) := of_row (r := (0, .iconst 0, 1)) DX6_shiresOwing_b0 0 rfl
theorem dX6_shiresOwing_1 : decode cX6_shiresOwing 1 = .ok (.istore_n 1, 1) := of_row (r := (1, .istore_n 1, 1)) DX6_shiresOwing_b0 1 rfl
theorem dX6_shiresOwing_2 : decode cX6_shiresOwing 2 = .ok (.iconst 0, 1) := of_row (r := (2, .iconst 0, 1)) DX6_shiresOwing_b0 2 rfl
theorem dX6_shiresOwing_3 : decode cX6_shiresOwing 3 = .ok (.istore_n 2, 1) := of_row (r := (3, .istore_n 2, 1)) DX6_shiresOwing_b0 3 rfl
theorem dX6_shiresOwing_4 : decode cX6_shiresOwing 4 = .ok (.iload_n 2, 1) := of_row (r := (4, .iload_n 2, 1)) DX6_shiresOwing_b0 4 rfl
theorem dX6_shiresOwing_5 : decode cX6_shiresOwing 5 = .ok (.bipush 8, 2) := of_row (r := (5, .bipush 8, 2)) DX6_shiresOwing_b0 5 rfl
theorem dX6_shiresOwing_7 : decode cX6_shiresOwing 7 = .ok (.if_icmp .ge 31, 3) := of_row (r := (7, .if_icmp .ge 31, 3)) DX6_shiresOwing_b0 6 rfl
theorem dX6_shiresOwing_10 : decode cX6_shiresOwing 10 = .ok (.aload_n 0, 1) := of_row (r := (10, .aload_n 0, 1)) DX6_shiresOwing_b0 7 rfl
theorem dX6_shiresOwing_11 : decode cX6_shiresOwing 11 = .ok (.getfield 59, 3) := of_row (r := (11, .getfield 59, 3)) DX6_shiresOwing_b0 8 rfl
theorem dX6_shiresOwing_14 : decode cX6_shiresOwing 14 = .ok (.iload_n 2, 1) := of_row (r := (14, .iload_n 2, 1)) DX6_shiresOwing_b0 9 rfl
theorem dX6_shiresOwing_15 : decode cX6_shiresOwing 15 = .ok (.iaload, 1) := of_row (r := (15, .iaload, 1)) DX6_shiresOwing_b0 10 rfl
theorem dX6_shiresOwing_16 : decode cX6_shiresOwing 16 = .ok (.ifCond .le 16, 3) := of_row (r := (16, .ifCond .le 16, 3)) DX6_shiresOwing_b0 11 rfl
theorem dX6_shiresOwing_19 : decode cX6_shiresOwing 19 = .ok (.aload_n 0, 1) := of_row (r := (19, .aload_n 0, 1)) DX6_shiresOwing_b0 12 rfl
theorem dX6_shiresOwing_20 : decode cX6_shiresOwing 20 = .ok (.getfield 62, 3) := of_row (r := (20, .getfield 62, 3)) DX6_shiresOwing_b0 13 rfl
theorem dX6_shiresOwing_23 : decode cX6_shiresOwing 23 = .ok (.iload_n 2, 1) := of_row (r := (23, .iload_n 2, 1)) DX6_shiresOwing_b0 14 rfl
theorem dX6_shiresOwing_24 : decode cX6_shiresOwing 24 = .ok (.iaload, 1) := of_row (r := (24, .iaload, 1)) DX6_shiresOwing_b0 15 rfl
theorem dX6_shiresOwing_25 : decode cX6_shiresOwing 25 = .ok (.iconst (-1), 1) := of_row (r := (25, .iconst (-1), 1)) DX6_shiresOwing_b0 16 rfl
theorem dX6_shiresOwing_26 : decode cX6_shiresOwing 26 = .ok (.if_icmp .eq 6, 3) := of_row (r := (26, .if_icmp .eq 6, 3)) DX6_shiresOwing_b0 17 rfl
theorem dX6_shiresOwing_29 : decode cX6_shiresOwing 29 = .ok (.iinc 1 1, 3) := of_row (r := (29, .iinc 1 1, 3)) DX6_shiresOwing_b0 18 rfl
theorem dX6_shiresOwing_32 : decode cX6_shiresOwing 32 = .ok (.iinc 2 1, 3) := of_row (r := (32, .iinc 2 1, 3)) DX6_shiresOwing_b0 19 rfl
theorem dX6_shiresOwing_35 : decode cX6_shiresOwing 35 = .ok (.goto (-31), 3) := of_row (r := (35, .goto (-31), 3)) DX6_shiresOwing_b0 20 rfl
theorem dX6_shiresOwing_38 : decode cX6_shiresOwing 38 = .ok (.iload_n 1, 1) := of_row (r := (38, .iload_n 1, 1)) DX6_shiresOwing_b0 21 rfl
theorem dX6_shiresOwing_39 : decode cX6_shiresOwing 39 = .ok (.ireturn, 1) := of_row (r := (39, .ireturn, 1)) DX6_shiresOwing_b0 22 rfl
set_option maxRecDepth 20000 in
theorem DX6_addFarmDebts_b0 : ([(0, .iconst 0, 1), (1, .istore_n 1, 1), (2, .iload_n 1, 1), (3, .bipush 8, 2), (5, .if_icmp .ge 47, 3), (8, .aload_n 0, 1), (9, .getfield 59, 3), (12, .iload_n 1, 1), (13, .iaload, 1), (14, .ifCond .le 32, 3), (17, .aload_n 0, 1), (18, .getfield 62, 3), (21, .iload_n 1, 1), (22, .iaload, 1), (23, .iconst (-1), 1), (24, .if_icmp .eq 22, 3), (27, .aload_n 0, 1), (28, .aload_n 0, 1), (29, .getfield 62, 3), (32, .iload_n 1, 1), (33, .iaload, 1), (34, .iconst 0, 1), (35, .aload_n 0, 1), (36, .getfield 59, 3), (39, .iload_n 1, 1), (40, .iaload, 1), (41, .iconst (-1), 1), (42, .invokevirtual 173, 3), (45, .pop, 1), (46, .iinc 1 1, 3), (49, .goto (-47), 3), (52, .return_, 1)] : List (Nat × Instr × Nat)).all (fun r => decide (decode cX6_addFarmDebts r.1 = .ok r.2)) = true := by decide +kernel
theorem dX6_addFarmDebts_0 : decode cX6_addFarmDebts 0 = .ok (.iconst 0, 1) := of_row (r := (0, .iconst 0, 1)) DX6_addFarmDebts_b0 0 rfl
theorem dX6_addFarmDebts_1 : decode cX6_addFarmDebts 1 = .ok (.istore_n 1, 1) := of_row (r := (1, .istore_n 1, 1)) DX6_addFarmDebts_b0 1 rfl
theorem dX6_addFarmDebts_2 : decode cX6_addFarmDebts 2 = .ok (.iload_n 1, 1) := of_row (r := (2, .iload_n 1, 1)) DX6_addFarmDebts_b0 2 rfl
theorem dX6_addFarmDebts_3 : decode cX6_addFarmDebts 3 = .ok (.bipush 8, 2) := of_row (r := (3, .bipush 8, 2)) DX6_addFarmDebts_b0 3 rfl
theorem dX6_addFarmDebts_5 : decode cX6_addFarmDebts 5 = .ok (.if_icmp .ge 47, 3) := of_row (r := (5, .if_icmp .ge 47, 3)) DX6_addFarmDebts_b0 4 rfl
theorem dX6_addFarmDebts_8 : decode cX6_addFarmDebts 8 = .ok (.aload_n 0, 1) := of_row (r := (8, .aload_n 0, 1)) DX6_addFarmDebts_b0 5 rfl
theorem dX6_addFarmDebts_9 : decode cX6_addFarmDebts 9 = .ok (.getfield 59, 3) := of_row (r := (9, .getfield 59, 3)) DX6_addFarmDebts_b0 6 rfl
theorem dX6_addFarmDebts_12 : decode cX6_addFarmDebts 12 = .ok (.iload_n 1, 1) := of_row (r := (12, .iload_n 1, 1)) DX6_addFarmDebts_b0 7 rfl
theorem dX6_addFarmDebts_13 : decode cX6_addFarmDebts 13 = .ok (.iaload, 1) := of_row (r := (13, .iaload, 1)) DX6_addFarmDebts_b0 8 rfl
theorem dX6_addFarmDebts_14 : decode cX6_addFarmDebts 14 = .ok (.ifCond .le 32, 3) := of_row (r := (14, .ifCond .le 32, 3)) DX6_addFarmDebts_b0 9 rfl
theorem dX6_addFarmDebts_17 : decode cX6_addFarmDebts 17 = .ok (.aload_n 0, 1) := of_row (r := (17, .aload_n 0, 1)) DX6_addFarmDebts_b0 10 rfl
theorem dX6_addFarmDebts_18 : decode cX6_addFarmDebts 18 = .ok (.getfield 62, 3) := of_row (r := (18, .getfield 62, 3)) DX6_addFarmDebts_b0 11 rfl
theorem dX6_addFarmDebts_21 : decode cX6_addFarmDebts 21 = .ok (.iload_n 1, 1) := of_row (r := (21, .iload_n 1, 1)) DX6_addFarmDebts_b0 12 rfl
theorem dX6_addFarmDebts_22 : decode cX6_addFarmDebts 22 = .ok (.iaload, 1) := of_row (r := (22, .iaload, 1)) DX6_addFarmDebts_b0 13 rfl
theorem dX6_addFarmDebts_23 : decode cX6_addFarmDebts 23 = .ok (.iconst (-1), 1) := of_row (r := (23, .iconst (-1), 1)) DX6_addFarmDebts_b0 14 rfl
theorem dX6_addFarmDebts_24 : decode cX6_addFarmDebts 24 = .ok (.if_icmp .eq 22, 3) := of_row (r := (24, .if_icmp .eq 22, 3)) DX6_addFarmDebts_b0 15 rfl
theorem dX6_addFarmDebts_27 : decode cX6_addFarmDebts 27 = .ok (.aload_n 0, 1) := of_row (r := (27, .aload_n 0, 1)) DX6_addFarmDebts_b0 16 rfl
theorem dX6_addFarmDebts_28 : decode cX6_addFarmDebts 28 = .ok (.aload_n 0, 1) := of_row (r := (28, .aload_n 0, 1)) DX6_addFarmDebts_b0 17 rfl
theorem dX6_addFarmDebts_29 : decode cX6_addFarmDebts 29 = .ok (.getfield 62, 3) := of_row (r := (29, .getfield 62, 3)) DX6_addFarmDebts_b0 18 rfl
theorem dX6_addFarmDebts_32 : decode cX6_addFarmDebts 32 = .ok (.iload_n 1, 1) := of_row (r := (32, .iload_n 1, 1)) DX6_addFarmDebts_b0 19 rfl
theorem dX6_addFarmDebts_33 : decode cX6_addFarmDebts 33 = .ok (.iaload, 1) := of_row (r := (33, .iaload, 1)) DX6_addFarmDebts_b0 20 rfl
theorem dX6_addFarmDebts_34 : decode cX6_addFarmDebts 34 = .ok (.iconst 0, 1) := of_row (r := (34, .iconst 0, 1)) DX6_addFarmDebts_b0 21 rfl
theorem dX6_addFarmDebts_35 : decode cX6_addFarmDebts 35 = .ok (.aload_n 0, 1) := of_row (r := (35, .aload_n 0, 1)) DX6_addFarmDebts_b0 22 rfl
theorem dX6_addFarmDebts_36 : decode cX6_addFarmDebts 36 = .ok (.getfield 59, 3) := of_row (r := (36, .getfield 59, 3)) DX6_addFarmDebts_b0 23 rfl
theorem dX6_addFarmDebts_39 : decode cX6_addFarmDebts 39 = .ok (.iload_n 1, 1) := of_row (r := (39, .iload_n 1, 1)) DX6_addFarmDebts_b0 24 rfl
theorem dX6_addFarmDebts_40 : decode cX6_addFarmDebts 40 = .ok (.iaload, 1) := of_row (r := (40, .iaload, 1)) DX6_addFarmDebts_b0 25 rfl
theorem dX6_addFarmDebts_41 : decode cX6_addFarmDebts 41 = .ok (.iconst (-1), 1) := of_row (r := (41, .iconst (-1), 1)) DX6_addFarmDebts_b0 26 rfl
theorem dX6_addFarmDebts_42 : decode cX6_addFarmDebts 42 = .ok (.invokevirtual 173, 3) := of_row (r := (42, .invokevirtual 173, 3)) DX6_addFarmDebts_b0 27 rfl
theorem dX6_addFarmDebts_45 : decode cX6_addFarmDebts 45 = .ok (.pop, 1) := of_row (r := (45, .pop, 1)) DX6_addFarmDebts_b0 28 rfl
theorem dX6_addFarmDebts_46 : decode cX6_addFarmDebts 46 = .ok (.iinc 1 1, 3) := of_row (r := (46, .iinc 1 1, 3)) DX6_addFarmDebts_b0 29 rfl
theorem dX6_addFarmDebts_49 : decode cX6_addFarmDebts 49 = .ok (.goto (-47), 3) := of_row (r := (49, .goto (-47), 3)) DX6_addFarmDebts_b0 30 rfl
theorem dX6_addFarmDebts_52 : decode cX6_addFarmDebts 52 = .ok (.return_, 1) := of_row (r := (52, .return_, 1)) DX6_addFarmDebts_b0 31 rfl
set_option maxRecDepth 20000 in
theorem DX6_moveDebt_b0 : ([(0, .aload_n 0, 1), (1, .getfield 65, 3), (4, .iload_n 1, 1), (5, .iconst 0, 1), (6, .iload_n 2, 1), (7, .invokevirtual 127, 3), (10, .aload_n 0, 1), (11, .getfield 65, 3), (14, .iload_n 1, 1), (15, .iconst 5, 1), (16, .invokevirtual 139, 3), (19, .iload_n 2, 1), (20, .if_icmp .ne 13, 3), (23, .aload_n 0, 1), (24, .getfield 65, 3), (27, .iload_n 1, 1), (28, .iconst 5, 1), (29, .iconst (-1), 1), (30, .invokevirtual 127, 3), (33, .return_, 1)] : List (Nat × Instr × Nat)).all (fun r => decide (decode cX6_moveDebt r.1 = .ok r.2)) = true := by decide +kernel
theorem dX6_moveDebt_0 : decode cX6_moveDebt 0 = .ok (.aload_n 0, 1) := of_row (r := (0, .aload_n 0, 1)) DX6_moveDebt_b0 0 rfl
theorem dX6_moveDebt_1 : decode cX6_moveDebt 1 = .ok (.getfield 65, 3) := of_row (r := (1, .getfield 65, 3)) DX6_moveDebt_b0 1 rfl
theorem dX6_moveDebt_4 : decode cX6_moveDebt 4 = .ok (.iload_n 1, 1) := of_row (r := (4, .iload_n 1, 1)) DX6_moveDebt_b0 2 rfl
theorem dX6_moveDebt_5 : decode cX6_moveDebt 5 = .ok (.iconst 0, 1) := of_row (r := (5, .iconst 0, 1)) DX6_moveDebt_b0 3 rfl
theorem dX6_moveDebt_6 : decode cX6_moveDebt 6 = .ok (.iload_n 2, 1) := of_row (r := (6, .iload_n 2, 1)) DX6_moveDebt_b0 4 rfl
theorem dX6_moveDebt_7 : decode cX6_moveDebt 7 = .ok (.invokevirtual 127, 3) := of_row (r := (7, .invokevirtual 127, 3)) DX6_moveDebt_b0 5 rfl
theorem dX6_moveDebt_10 : decode cX6_moveDebt 10 = .ok (.aload_n 0, 1) := of_row (r := (10, .aload_n 0, 1)) DX6_moveDebt_b0 6 rfl
theorem dX6_moveDebt_11 : decode cX6_moveDebt 11 = .ok (.getfield 65, 3) := of_row (r := (11, .getfield 65, 3)) DX6_moveDebt_b0 7 rfl
theorem dX6_moveDebt_14 : decode cX6_moveDebt 14 = .ok (.iload_n 1, 1) := of_row (r := (14, .iload_n 1, 1)) DX6_moveDebt_b0 8 rfl
theorem dX6_moveDebt_15 : decode cX6_moveDebt 15 = .ok (.iconst 5, 1) := of_row (r := (15, .iconst 5, 1)) DX6_moveDebt_b0 9 rfl
theorem dX6_moveDebt_16 : decode cX6_moveDebt 16 = .ok (.invokevirtual 139, 3) := of_row (r := (16, .invokevirtual 139, 3)) DX6_moveDebt_b0 10 rfl
theorem dX6_moveDebt_19 : decode cX6_moveDebt 19 = .ok (.iload_n 2, 1) := of_row (r := (19, .iload_n 2, 1)) DX6_moveDebt_b0 11 rfl
theorem dX6_moveDebt_20 : decode cX6_moveDebt 20 = .ok (.if_icmp .ne 13, 3) := of_row (r := (20, .if_icmp .ne 13, 3)) DX6_moveDebt_b0 12 rfl
theorem dX6_moveDebt_23 : decode cX6_moveDebt 23 = .ok (.aload_n 0, 1) := of_row (r := (23, .aload_n 0, 1)) DX6_moveDebt_b0 13 rfl
theorem dX6_moveDebt_24 : decode cX6_moveDebt 24 = .ok (.getfield 65, 3) := of_row (r := (24, .getfield 65, 3)) DX6_moveDebt_b0 14 rfl
theorem dX6_moveDebt_27 : decode cX6_moveDebt 27 = .ok (.iload_n 1, 1) := of_row (r := (27, .iload_n 1, 1)) DX6_moveDebt_b0 15 rfl
theorem dX6_moveDebt_28 : decode cX6_moveDebt 28 = .ok (.iconst 5, 1) := of_row (r := (28, .iconst 5, 1)) DX6_moveDebt_b0 16 rfl
theorem dX6_moveDebt_29 : decode cX6_moveDebt 29 = .ok (.iconst (-1), 1) := of_row (r := (29, .iconst (-1), 1)) DX6_moveDebt_b0 17 rfl
theorem dX6_moveDebt_30 : decode cX6_moveDebt 30 = .ok (.invokevirtual 127, 3) := of_row (r := (30, .invokevirtual 127, 3)) DX6_moveDebt_b0 18 rfl
theorem dX6_moveDebt_33 : decode cX6_moveDebt 33 = .ok (.return_, 1) := of_row (r := (33, .return_, 1)) DX6_moveDebt_b0 19 rfl
set_option maxRecDepth 20000 in
theorem DX6_askAll_b0 : ([(0, .aload_n 0, 1), (1, .aload_n 0, 1), (2, .getfield 120, 3), (5, .invokevirtual 131, 3), (8, .istore 4, 2), (10, .aload_n 0, 1), (11, .iload_n 1, 1), (12, .invokevirtual 143, 3), (15, .lstore 5, 2), (17, .lconst 0, 1), (18, .lstore 7, 2), (20, .iconst 0, 1), (21, .istore 9, 2), (23, .iload 9, 2), (25, .aload_n 0, 1), (26, .getfield 65, 3), (29, .getfield 155, 3), (32, .if_icmp .ge 100, 3), (35, .aload_n 0, 1), (36, .iload 9, 2), (38, .iload_n 1, 1), (39, .invokevirtual 195, 3), (42, .ifCond .eq 84, 3), (45, .aload_n 0, 1), (46, .getfield 65, 3), (49, .iload 9, 2), (51, .iconst 3, 1), (52, .invokevirtual 139, 3), (55, .istore 10, 2), (57, .lload_n 2, 1), (58, .lload 7, 2), (60, .lsub, 1), (61, .lstore 11, 2), (63, .aload_n 0, 1), (64, .iload 9, 2), (66, .lload 5, 2), (68, .lload 11, 2), (70, .lload 7, 2), (72, .invokevirtual 147, 3), (75, .lload 7, 2), (77, .aload_n 0, 1), (78, .iload 9, 2), (80, .iload_n 1, 1), (81, .iload 4, 2), (83, .lload 11, 2), (85, .invokevirtual 207, 3), (88, .i2l, 1), (89, .ladd, 1), (90, .lstore 7, 2), (92, .lload 5, 2), (94, .iload 10, 2), (96, .i2l, 1), (97, .lsub, 1), (98, .lstore 5, 2), (100, .aload_n 0, 1), (101, .iload 9, 2), (103, .iload_n 1, 1), (104, .invokevirtual 195, 3), (107, .ifCond .eq 19, 3), (110, .lload 5, 2)] : List (Nat × Instr × Nat)).all (fun r => decide (decode cX6_askAll r.1 = .ok r.2)) = true := by decide +kernel
theorem dX6_askAll_0 : decode cX6_askAll 0 = .ok (.aload_n 0, 1) := of_row (r := (0, .aload_n 0, 1)) DX6_askAll_b0 0 rfl
theorem dX6_askAll_1 : decode cX6_askAll 1 = .ok (.aload_n 0, 1) := of_row (r := (1, .aload_n 0, 1)) DX6_askAll_b0 1 rfl
theorem dX6_askAll_2 : decode cX6_askAll 2 = .ok (.getfield 120, 3) := of_row (r := (2, .getfield 120, 3)) DX6_askAll_b0 2 rfl
theorem dX6_askAll_5 : decode cX6_askAll 5 = .ok (.invokevirtual 131, 3) := of_row (r := (5, .invokevirtual 131, 3)) DX6_askAll_b0 3 rfl
theorem dX6_askAll_8 : decode cX6_askAll 8 = .ok (.istore 4, 2) := of_row (r := (8, .istore 4, 2)) DX6_askAll_b0 4 rfl
theorem dX6_askAll_10 : decode cX6_askAll 10 = .ok (.aload_n 0, 1) := of_row (r := (10, .aload_n 0, 1)) DX6_askAll_b0 5 rfl
theorem dX6_askAll_11 : decode cX6_askAll 11 = .ok (.iload_n 1, 1) := of_row (r := (11, .iload_n 1, 1)) DX6_askAll_b0 6 rfl
theorem dX6_askAll_12 : decode cX6_askAll 12 = .ok (.invokevirtual 143, 3) := of_row (r := (12, .invokevirtual 143, 3)) DX6_askAll_b0 7 rfl
theorem dX6_askAll_15 : decode cX6_askAll 15 = .ok (.lstore 5, 2) := of_row (r := (15, .lstore 5, 2)) DX6_askAll_b0 8 rfl
theorem dX6_askAll_17 : decode cX6_askAll 17 = .ok (.lconst 0, 1) := of_row (r := (17, .lconst 0, 1)) DX6_askAll_b0 9 rfl
theorem dX6_askAll_18 : decode cX6_askAll 18 = .ok (.lstore 7, 2) := of_row (r := (18, .lstore 7, 2)) DX6_askAll_b0 10 rfl
theorem dX6_askAll_20 : decode cX6_askAll 20 = .ok (.iconst 0, 1) := of_row (r := (20, .iconst 0, 1)) DX6_askAll_b0 11 rfl
theorem dX6_askAll_21 : decode cX6_askAll 21 = .ok (.istore 9, 2) := of_row (r := (21, .istore 9, 2)) DX6_askAll_b0 12 rfl
theorem dX6_askAll_23 : decode cX6_askAll 23 = .ok (.iload 9, 2) := of_row (r := (23, .iload 9, 2)) DX6_askAll_b0 13 rfl
theorem dX6_askAll_25 : decode cX6_askAll 25 = .ok (.aload_n 0, 1) := of_row (r := (25, .aload_n 0, 1)) DX6_askAll_b0 14 rfl
theorem dX6_askAll_26 : decode cX6_askAll 26 = .ok (.getfield 65, 3) := of_row (r := (26, .getfield 65, 3)) DX6_askAll_b0 15 rfl
theorem dX6_askAll_29 : decode cX6_askAll 29 = .ok (.getfield 155, 3) := of_row (r := (29, .getfield 155, 3)) DX6_askAll_b0 16 rfl
theorem dX6_askAll_32 : decode cX6_askAll 32 = .ok (.if_icmp .ge 100, 3) := of_row (r := (32, .if_icmp .ge 100, 3)) DX6_askAll_b0 17 rfl
theorem dX6_askAll_35 : decode cX6_askAll 35 = .ok (.aload_n 0, 1) := of_row (r := (35, .aload_n 0, 1)) DX6_askAll_b0 18 rfl
theorem dX6_askAll_36 : decode cX6_askAll 36 = .ok (.iload 9, 2) := of_row (r := (36, .iload 9, 2)) DX6_askAll_b0 19 rfl
theorem dX6_askAll_38 : decode cX6_askAll 38 = .ok (.iload_n 1, 1) := of_row (r := (38, .iload_n 1, 1)) DX6_askAll_b0 20 rfl
theorem dX6_askAll_39 : decode cX6_askAll 39 = .ok (.invokevirtual 195, 3) := of_row (r := (39, .invokevirtual 195, 3)) DX6_askAll_b0 21 rfl
theorem dX6_askAll_42 : decode cX6_askAll 42 = .ok (.ifCond .eq 84, 3) := of_row (r := (42, .ifCond .eq 84, 3)) DX6_askAll_b0 22 rfl
theorem dX6_askAll_45 : decode cX6_askAll 45 = .ok (.aload_n 0, 1) := of_row (r := (45, .aload_n 0, 1)) DX6_askAll_b0 23 rfl
theorem dX6_askAll_46 : decode cX6_askAll 46 = .ok (.getfield 65, 3) := of_row (r := (46, .getfield 65, 3)) DX6_askAll_b0 24 rfl
theorem dX6_askAll_49 : decode cX6_askAll 49 = .ok (.iload 9, 2) := of_row (r := (49, .iload 9, 2)) DX6_askAll_b0 25 rfl
theorem dX6_askAll_51 : decode cX6_askAll 51 = .ok (.iconst 3, 1) := of_row (r := (51, .iconst 3, 1)) DX6_askAll_b0 26 rfl
theorem dX6_askAll_52 : decode cX6_askAll 52 = .ok (.invokevirtual 139, 3) := of_row (r := (52, .invokevirtual 139, 3)) DX6_askAll_b0 27 rfl
theorem dX6_askAll_55 : decode cX6_askAll 55 = .ok (.istore 10, 2) := of_row (r := (55, .istore 10, 2)) DX6_askAll_b0 28 rfl
theorem dX6_askAll_57 : decode cX6_askAll 57 = .ok (.lload_n 2, 1) := of_row (r := (57, .lload_n 2, 1)) DX6_askAll_b0 29 rfl
theorem dX6_askAll_58 : decode cX6_askAll 58 = .ok (.lload 7, 2) := of_row (r := (58, .lload 7, 2)) DX6_askAll_b0 30 rfl
theorem dX6_askAll_60 : decode cX6_askAll 60 = .ok (.lsub, 1) := of_row (r := (60, .lsub, 1)) DX6_askAll_b0 31 rfl
theorem dX6_askAll_61 : decode cX6_askAll 61 = .ok (.lstore 11, 2) := of_row (r := (61, .lstore 11, 2)) DX6_askAll_b0 32 rfl
theorem dX6_askAll_63 : decode cX6_askAll 63 = .ok (.aload_n 0, 1) := of_row (r := (63, .aload_n 0, 1)) DX6_askAll_b0 33 rfl
theorem dX6_askAll_64 : decode cX6_askAll 64 = .ok (.iload 9, 2) := of_row (r := (64, .iload 9, 2)) DX6_askAll_b0 34 rfl
theorem dX6_askAll_66 : decode cX6_askAll 66 = .ok (.lload 5, 2) := of_row (r := (66, .lload 5, 2)) DX6_askAll_b0 35 rfl
theorem dX6_askAll_68 : decode cX6_askAll 68 = .ok (.lload 11, 2) := of_row (r := (68, .lload 11, 2)) DX6_askAll_b0 36 rfl
theorem dX6_askAll_70 : decode cX6_askAll 70 = .ok (.lload 7, 2) := of_row (r := (70, .lload 7, 2)) DX6_askAll_b0 37 rfl
theorem dX6_askAll_72 : decode cX6_askAll 72 = .ok (.invokevirtual 147, 3) := of_row (r := (72, .invokevirtual 147, 3)) DX6_askAll_b0 38 rfl
theorem dX6_askAll_75 : decode cX6_askAll 75 = .ok (.lload 7, 2) := of_row (r := (75, .lload 7, 2)) DX6_askAll_b0 39 rfl
theorem dX6_askAll_77 : decode cX6_askAll 77 = .ok (.aload_n 0, 1) := of_row (r := (77, .aload_n 0, 1)) DX6_askAll_b0 40 rfl
theorem dX6_askAll_78 : decode cX6_askAll 78 = .ok (.iload 9, 2) := of_row (r := (78, .iload 9, 2)) DX6_askAll_b0 41 rfl
theorem dX6_askAll_80 : decode cX6_askAll 80 = .ok (.iload_n 1, 1) := of_row (r := (80, .iload_n 1, 1)) DX6_askAll_b0 42 rfl
theorem dX6_askAll_81 : decode cX6_askAll 81 = .ok (.iload 4, 2) := of_row (r := (81, .iload 4, 2)) DX6_askAll_b0 43 rfl
theorem dX6_askAll_83 : decode cX6_askAll 83 = .ok (.lload 11, 2) := of_row (r := (83, .lload 11, 2)) DX6_askAll_b0 44 rfl
theorem dX6_askAll_85 : decode cX6_askAll 85 = .ok (.invokevirtual 207, 3) := of_row (r := (85, .invokevirtual 207, 3)) DX6_askAll_b0 45 rfl
theorem dX6_askAll_88 : decode cX6_askAll 88 = .ok (.i2l, 1) := of_row (r := (88, .i2l, 1)) DX6_askAll_b0 46 rfl
theorem dX6_askAll_89 : decode cX6_askAll 89 = .ok (.ladd, 1) := of_row (r := (89, .ladd, 1)) DX6_askAll_b0 47 rfl
theorem dX6_askAll_90 : decode cX6_askAll 90 = .ok (.lstore 7, 2) := of_row (r := (90, .lstore 7, 2)) DX6_askAll_b0 48 rfl
theorem dX6_askAll_92 : decode cX6_askAll 92 = .ok (.lload 5, 2) := of_row (r := (92, .lload 5, 2)) DX6_askAll_b0 49 rfl
theorem dX6_askAll_94 : decode cX6_askAll 94 = .ok (.iload 10, 2) := of_row (r := (94, .iload 10, 2)) DX6_askAll_b0 50 rfl
theorem dX6_askAll_96 : decode cX6_askAll 96 = .ok (.i2l, 1) := of_row (r := (96, .i2l, 1)) DX6_askAll_b0 51 rfl
theorem dX6_askAll_97 : decode cX6_askAll 97 = .ok (.lsub, 1) := of_row (r := (97, .lsub, 1)) DX6_askAll_b0 52 rfl
theorem dX6_askAll_98 : decode cX6_askAll 98 = .ok (.lstore 5, 2) := of_row (r := (98, .lstore 5, 2)) DX6_askAll_b0 53 rfl
theorem dX6_askAll_100 : decode cX6_askAll 100 = .ok (.aload_n 0, 1) := of_row (r := (100, .aload_n 0, 1)) DX6_askAll_b0 54 rfl
theorem dX6_askAll_101 : decode cX6_askAll 101 = .ok (.iload 9, 2) := of_row (r := (101, .iload 9, 2)) DX6_askAll_b0 55 rfl
theorem dX6_askAll_103 : decode cX6_askAll 103 = .ok (.iload_n 1, 1) := of_row (r := (103, .iload_n 1, 1)) DX6_askAll_b0 56 rfl
theorem dX6_askAll_104 : decode cX6_askAll 104 = .ok (.invokevirtual 195, 3) := of_row (r := (104, .invokevirtual 195, 3)) DX6_askAll_b0 57 rfl
theorem dX6_askAll_107 : decode cX6_askAll 107 = .ok (.ifCond .eq 19, 3) := of_row (r := (107, .ifCond .eq 19, 3)) DX6_askAll_b0 58 rfl
theorem dX6_askAll_110 : decode cX6_askAll 110 = .ok (.lload 5, 2) := of_row (r := (110, .lload 5, 2)) DX6_askAll_b0 59 rfl
set_option maxRecDepth 20000 in
theorem DX6_askAll_b1 : ([(112, .aload_n 0, 1), (113, .getfield 65, 3), (116, .iload 9, 2), (118, .iconst 3, 1), (119, .invokevirtual 139, 3), (122, .i2l, 1), (123, .ladd, 1), (124, .lstore 5, 2), (126, .iinc 9 1, 3), (129, .goto (-106), 3), (132, .lload 7, 2), (134, .lreturn, 1)] : List (Nat × Instr × Nat)).all (fun r => decide (decode cX6_askAll r.1 = .ok r.2)) = true := by decide +kernel
theorem dX6_askAll_112 : decode cX6_askAll 112 = .ok (.aload_n 0, 1) := of_row (r := (112, .aload_n 0, 1)) DX6_askAll_b1 0 rfl
theorem dX6_askAll_113 : decode cX6_askAll 113 = .ok (.getfield 65, 3) := of_row (r := (113, .getfield 65, 3)) DX6_askAll_b1 1 rfl
theorem dX6_askAll_116 : decode cX6_askAll 116 = .ok (.iload 9, 2) := of_row (r := (116, .iload 9, 2)) DX6_askAll_b1 2 rfl
theorem dX6_askAll_118 : decode cX6_askAll 118 = .ok (.iconst 3, 1) := of_row (r := (118, .iconst 3, 1)) DX6_askAll_b1 3 rfl
theorem dX6_askAll_119 : decode cX6_askAll 119 = .ok (.invokevirtual 139, 3) := of_row (r := (119, .invokevirtual 139, 3)) DX6_askAll_b1 4 rfl
theorem dX6_askAll_122 : decode cX6_askAll 122 = .ok (.i2l, 1) := of_row (r := (122, .i2l, 1)) DX6_askAll_b1 5 rfl
theorem dX6_askAll_123 : decode cX6_askAll 123 = .ok (.ladd, 1) := of_row (r := (123, .ladd, 1)) DX6_askAll_b1 6 rfl
theorem dX6_askAll_124 : decode cX6_askAll 124 = .ok (.lstore 5, 2) := of_row (r := (124, .lstore 5, 2)) DX6_askAll_b1 7 rfl
theorem dX6_askAll_126 : decode cX6_askAll 126 = .ok (.iinc 9 1, 3) := of_row (r := (126, .iinc 9 1, 3)) DX6_askAll_b1 8 rfl
theorem dX6_askAll_129 : decode cX6_askAll 129 = .ok (.goto (-106), 3) := of_row (r := (129, .goto (-106), 3)) DX6_askAll_b1 9 rfl
theorem dX6_askAll_132 : decode cX6_askAll 132 = .ok (.lload 7, 2) := of_row (r := (132, .lload 7, 2)) DX6_askAll_b1 10 rfl
theorem dX6_askAll_134 : decode cX6_askAll 134 = .ok (.lreturn, 1) := of_row (r := (134, .lreturn, 1)) DX6_askAll_b1 11 rfl
set_option maxRecDepth 20000 in
theorem DX6_askDebt_b0 : ([(0, .aload_n 0, 1), (1, .iload_n 3, 1), (2, .invokevirtual 113, 3), (5, .astore 6, 2), (7, .aload 6, 2), (9, .ifnonnull 7, 3), (12, .iconst (-1), 1), (13, .goto 12, 3), (16, .aload_n 0, 1), (17, .getfield 28, 3), (20, .aload 6, 2), (22, .invokevirtual 151, 3), (25, .istore 7, 2), (27, .aload 6, 2), (29, .ifnonnull 7, 3), (32, .iconst 2, 1), (33, .goto 10, 3), (36, .aload 6, 2), (38, .iload 7, 2), (40, .invokevirtual 211, 3), (43, .istore 8, 2), (45, .aload 6, 2), (47, .ifnonnull 7, 3), (50, .iconst 0, 1), (51, .goto 10, 3), (54, .aload 6, 2), (56, .iload 7, 2), (58, .invokevirtual 214, 3), (61, .istore 9, 2), (63, .aload_n 0, 1), (64, .getfield 65, 3), (67, .iload_n 1, 1), (68, .iconst 3, 1), (69, .invokevirtual 139, 3), (72, .iload 9, 2), (74, .imul, 1), (75, .bipush 100, 2), (77, .idiv, 1), (78, .i2l, 1), (79, .lload 4, 2), (81, .invokestatic 217, 3), (84, .l2i, 1), (85, .istore 10, 2), (87, .iload 10, 2), (89, .ifCond .le 12, 3), (92, .aload_n 0, 1), (93, .iload 10, 2), (95, .invokevirtual 223, 3), (98, .goto 4, 3), (101, .iconst (-1), 1), (102, .istore 11, 2), (104, .aload_n 0, 1), (105, .iload_n 2, 1), (106, .iload_n 1, 1), (107, .iload 8, 2), (109, .iload 10, 2), (111, .invokevirtual 226, 3), (114, .aload_n 0, 1), (115, .getfield 68, 3), (118, .getfield 155, 3)] : List (Nat × Instr × Nat)).all (fun r => decide (decode cX6_askDebt r.1 = .ok r.2)) = true := by decide +kernel
theorem dX6_askDebt_0 : decode cX6_askDebt 0 = .ok (.aload_n 0, 1) := of_row (r := (0, .aload_n 0, 1)) DX6_askDebt_b0 0 rfl
theorem dX6_askDebt_1 : decode cX6_askDebt 1 = .ok (.iload_n 3, 1) := of_row (r := (1, .iload_n 3, 1)) DX6_askDebt_b0 1 rfl
theorem dX6_askDebt_2 : decode cX6_askDebt 2 = .ok (.invokevirtual 113, 3) := of_row (r := (2, .invokevirtual 113, 3)) DX6_askDebt_b0 2 rfl
theorem dX6_askDebt_5 : decode cX6_askDebt 5 = .ok (.astore 6, 2) := of_row (r := (5, .astore 6, 2)) DX6_askDebt_b0 3 rfl
theorem dX6_askDebt_7 : decode cX6_askDebt 7 = .ok (.aload 6, 2) := of_row (r := (7, .aload 6, 2)) DX6_askDebt_b0 4 rfl
theorem dX6_askDebt_9 : decode cX6_askDebt 9 = .ok (.ifnonnull 7, 3) := of_row (r := (9, .ifnonnull 7, 3)) DX6_askDebt_b0 5 rfl
theorem dX6_askDebt_12 : decode cX6_askDebt 12 = .ok (.iconst (-1), 1) := of_row (r := (12, .iconst (-1), 1)) DX6_askDebt_b0 6 rfl
theorem dX6_askDebt_13 : decode cX6_askDebt 13 = .ok (.goto 12, 3) := of_row (r := (13, .goto 12, 3)) DX6_askDebt_b0 7 rfl
theorem dX6_askDebt_16 : decode cX6_askDebt 16 = .ok (.aload_n 0, 1) := of_row (r := (16, .aload_n 0, 1)) DX6_askDebt_b0 8 rfl
theorem dX6_askDebt_17 : decode cX6_askDebt 17 = .ok (.getfield 28, 3) := of_row (r := (17, .getfield 28, 3)) DX6_askDebt_b0 9 rfl
theorem dX6_askDebt_20 : decode cX6_askDebt 20 = .ok (.aload 6, 2) := of_row (r := (20, .aload 6, 2)) DX6_askDebt_b0 10 rfl
theorem dX6_askDebt_22 : decode cX6_askDebt 22 = .ok (.invokevirtual 151, 3) := of_row (r := (22, .invokevirtual 151, 3)) DX6_askDebt_b0 11 rfl
theorem dX6_askDebt_25 : decode cX6_askDebt 25 = .ok (.istore 7, 2) := of_row (r := (25, .istore 7, 2)) DX6_askDebt_b0 12 rfl
theorem dX6_askDebt_27 : decode cX6_askDebt 27 = .ok (.aload 6, 2) := of_row (r := (27, .aload 6, 2)) DX6_askDebt_b0 13 rfl
theorem dX6_askDebt_29 : decode cX6_askDebt 29 = .ok (.ifnonnull 7, 3) := of_row (r := (29, .ifnonnull 7, 3)) DX6_askDebt_b0 14 rfl
theorem dX6_askDebt_32 : decode cX6_askDebt 32 = .ok (.iconst 2, 1) := of_row (r := (32, .iconst 2, 1)) DX6_askDebt_b0 15 rfl
theorem dX6_askDebt_33 : decode cX6_askDebt 33 = .ok (.goto 10, 3) := of_row (r := (33, .goto 10, 3)) DX6_askDebt_b0 16 rfl
theorem dX6_askDebt_36 : decode cX6_askDebt 36 = .ok (.aload 6, 2) := of_row (r := (36, .aload 6, 2)) DX6_askDebt_b0 17 rfl
theorem dX6_askDebt_38 : decode cX6_askDebt 38 = .ok (.iload 7, 2) := of_row (r := (38, .iload 7, 2)) DX6_askDebt_b0 18 rfl
theorem dX6_askDebt_40 : decode cX6_askDebt 40 = .ok (.invokevirtual 211, 3) := of_row (r := (40, .invokevirtual 211, 3)) DX6_askDebt_b0 19 rfl
theorem dX6_askDebt_43 : decode cX6_askDebt 43 = .ok (.istore 8, 2) := of_row (r := (43, .istore 8, 2)) DX6_askDebt_b0 20 rfl
theorem dX6_askDebt_45 : decode cX6_askDebt 45 = .ok (.aload 6, 2) := of_row (r := (45, .aload 6, 2)) DX6_askDebt_b0 21 rfl
theorem dX6_askDebt_47 : decode cX6_askDebt 47 = .ok (.ifnonnull 7, 3) := of_row (r := (47, .ifnonnull 7, 3)) DX6_askDebt_b0 22 rfl
theorem dX6_askDebt_50 : decode cX6_askDebt 50 = .ok (.iconst 0, 1) := of_row (r := (50, .iconst 0, 1)) DX6_askDebt_b0 23 rfl
theorem dX6_askDebt_51 : decode cX6_askDebt 51 = .ok (.goto 10, 3) := of_row (r := (51, .goto 10, 3)) DX6_askDebt_b0 24 rfl
theorem dX6_askDebt_54 : decode cX6_askDebt 54 = .ok (.aload 6, 2) := of_row (r := (54, .aload 6, 2)) DX6_askDebt_b0 25 rfl
theorem dX6_askDebt_56 : decode cX6_askDebt 56 = .ok (.iload 7, 2) := of_row (r := (56, .iload 7, 2)) DX6_askDebt_b0 26 rfl
theorem dX6_askDebt_58 : decode cX6_askDebt 58 = .ok (.invokevirtual 214, 3) := of_row (r := (58, .invokevirtual 214, 3)) DX6_askDebt_b0 27 rfl
theorem dX6_askDebt_61 : decode cX6_askDebt 61 = .ok (.istore 9, 2) := of_row (r := (61, .istore 9, 2)) DX6_askDebt_b0 28 rfl
theorem dX6_askDebt_63 : decode cX6_askDebt 63 = .ok (.aload_n 0, 1) := of_row (r := (63, .aload_n 0, 1)) DX6_askDebt_b0 29 rfl
theorem dX6_askDebt_64 : decode cX6_askDebt 64 = .ok (.getfield 65, 3) := of_row (r := (64, .getfield 65, 3)) DX6_askDebt_b0 30 rfl
theorem dX6_askDebt_67 : decode cX6_askDebt 67 = .ok (.iload_n 1, 1) := of_row (r := (67, .iload_n 1, 1)) DX6_askDebt_b0 31 rfl
theorem dX6_askDebt_68 : decode cX6_askDebt 68 = .ok (.iconst 3, 1) := of_row (r := (68, .iconst 3, 1)) DX6_askDebt_b0 32 rfl
theorem dX6_askDebt_69 : decode cX6_askDebt 69 = .ok (.invokevirtual 139, 3) := of_row (r := (69, .invokevirtual 139, 3)) DX6_askDebt_b0 33 rfl
theorem dX6_askDebt_72 : decode cX6_askDebt 72 = .ok (.iload 9, 2) := of_row (r := (72, .iload 9, 2)) DX6_askDebt_b0 34 rfl
theorem dX6_askDebt_74 : decode cX6_askDebt 74 = .ok (.imul, 1) := of_row (r := (74, .imul, 1)) DX6_askDebt_b0 35 rfl
theorem dX6_askDebt_75 : decode cX6_askDebt 75 = .ok (.bipush 100, 2) := of_row (r := (75, .bipush 100, 2)) DX6_askDebt_b0 36 rfl
theorem dX6_askDebt_77 : decode cX6_askDebt 77 = .ok (.idiv, 1) := of_row (r := (77, .idiv, 1)) DX6_askDebt_b0 37 rfl
theorem dX6_askDebt_78 : decode cX6_askDebt 78 = .ok (.i2l, 1) := of_row (r := (78, .i2l, 1)) DX6_askDebt_b0 38 rfl
theorem dX6_askDebt_79 : decode cX6_askDebt 79 = .ok (.lload 4, 2) := of_row (r := (79, .lload 4, 2)) DX6_askDebt_b0 39 rfl
theorem dX6_askDebt_81 : decode cX6_askDebt 81 = .ok (.invokestatic 217, 3) := of_row (r := (81, .invokestatic 217, 3)) DX6_askDebt_b0 40 rfl
theorem dX6_askDebt_84 : decode cX6_askDebt 84 = .ok (.l2i, 1) := of_row (r := (84, .l2i, 1)) DX6_askDebt_b0 41 rfl
theorem dX6_askDebt_85 : decode cX6_askDebt 85 = .ok (.istore 10, 2) := of_row (r := (85, .istore 10, 2)) DX6_askDebt_b0 42 rfl
theorem dX6_askDebt_87 : decode cX6_askDebt 87 = .ok (.iload 10, 2) := of_row (r := (87, .iload 10, 2)) DX6_askDebt_b0 43 rfl
theorem dX6_askDebt_89 : decode cX6_askDebt 89 = .ok (.ifCond .le 12, 3) := of_row (r := (89, .ifCond .le 12, 3)) DX6_askDebt_b0 44 rfl
theorem dX6_askDebt_92 : decode cX6_askDebt 92 = .ok (.aload_n 0, 1) := of_row (r := (92, .aload_n 0, 1)) DX6_askDebt_b0 45 rfl
theorem dX6_askDebt_93 : decode cX6_askDebt 93 = .ok (.iload 10, 2) := of_row (r := (93, .iload 10, 2)) DX6_askDebt_b0 46 rfl
