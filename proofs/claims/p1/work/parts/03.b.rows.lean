theorem dX2_set_6 : decode cX2_set 6 = .ok (.ifCond .eq 17, 3) := by decide +kernel
theorem dX2_set_9 : decode cX2_set 9 = .ok (.aload_n 0, 1) := by decide +kernel
theorem dX2_set_10 : decode cX2_set 10 = .ok (.getfield 24, 3) := by decide +kernel
theorem dX2_set_13 : decode cX2_set 13 = .ok (.iload_n 1, 1) := by decide +kernel
theorem dX2_set_14 : decode cX2_set 14 = .ok (.aload_n 0, 1) := by decide +kernel
theorem dX2_set_15 : decode cX2_set 15 = .ok (.getfield 15, 3) := by decide +kernel
theorem dX2_set_18 : decode cX2_set 18 = .ok (.imul, 1) := by decide +kernel
theorem dX2_set_19 : decode cX2_set 19 = .ok (.iload_n 2, 1) := by decide +kernel
theorem dX2_set_20 : decode cX2_set 20 = .ok (.iadd, 1) := by decide +kernel
theorem dX2_set_21 : decode cX2_set 21 = .ok (.iload_n 3, 1) := by decide +kernel
theorem dX2_set_22 : decode cX2_set 22 = .ok (.iastore, 1) := by decide +kernel
theorem dX2_set_23 : decode cX2_set 23 = .ok (.return_, 1) := by decide +kernel
set_option maxRecDepth 20000 in
theorem ggX2_total_X2_get : GoodIn wsX2_total wsX2_get := goodIn_r _ [6, 7, 8, 9, 10, 11, 5, 12, 1, 13, 14, 15, 16] (by decide +kernel) (by decide +kernel)
set_option maxRecDepth 20000 in
theorem gX2_total_X2_get : GoodIn wsX2_total (wsV RX2 45 RX2 yX2_get wsX2_get) := goodIn_app (goodIn_of _ (by decide +kernel)) ggX2_total_X2_get
theorem dX2_total_0 : decode cX2_total 0 = .ok (.lconst 0, 1) := by decide +kernel
theorem dX2_total_1 : decode cX2_total 1 = .ok (.lstore_n 2, 1) := by decide +kernel
theorem dX2_total_2 : decode cX2_total 2 = .ok (.iconst 0, 1) := by decide +kernel
theorem dX2_total_3 : decode cX2_total 3 = .ok (.istore 4, 2) := by decide +kernel
theorem dX2_total_5 : decode cX2_total 5 = .ok (.iload 4, 2) := by decide +kernel
theorem dX2_total_7 : decode cX2_total 7 = .ok (.aload_n 0, 1) := by decide +kernel
theorem dX2_total_8 : decode cX2_total 8 = .ok (.getfield 28, 3) := by decide +kernel
theorem dX2_total_11 : decode cX2_total 11 = .ok (.if_icmp .ge 20, 3) := by decide +kernel
theorem dX2_total_14 : decode cX2_total 14 = .ok (.lload_n 2, 1) := by decide +kernel
theorem dX2_total_15 : decode cX2_total 15 = .ok (.aload_n 0, 1) := by decide +kernel
theorem dX2_total_16 : decode cX2_total 16 = .ok (.iload 4, 2) := by decide +kernel
theorem dX2_total_18 : decode cX2_total 18 = .ok (.iload_n 1, 1) := by decide +kernel
theorem dX2_total_19 : decode cX2_total 19 = .ok (.invokevirtual 45, 3) := by decide +kernel
theorem dX2_total_22 : decode cX2_total 22 = .ok (.i2l, 1) := by decide +kernel
theorem dX2_total_23 : decode cX2_total 23 = .ok (.ladd, 1) := by decide +kernel
theorem dX2_total_24 : decode cX2_total 24 = .ok (.lstore_n 2, 1) := by decide +kernel
theorem dX2_total_25 : decode cX2_total 25 = .ok (.iinc 4 1, 3) := by decide +kernel
theorem dX2_total_28 : decode cX2_total 28 = .ok (.goto (-23), 3) := by decide +kernel
theorem dX2_total_31 : decode cX2_total 31 = .ok (.lload_n 2, 1) := by decide +kernel
theorem dX2_total_32 : decode cX2_total 32 = .ok (.lreturn, 1) := by decide +kernel
theorem dX3_init_0 : decode cX3_init 0 = .ok (.aload_n 0, 1) := by decide +kernel
theorem dX3_init_1 : decode cX3_init 1 = .ok (.invokespecial 3, 3) := by decide +kernel
theorem dX3_init_4 : decode cX3_init 4 = .ok (.aload_n 0, 1) := by decide +kernel
theorem dX3_init_5 : decode cX3_init 5 = .ok (.sipush 800, 3) := by decide +kernel
theorem dX3_init_8 : decode cX3_init 8 = .ok (.newarray .byte, 2) := by decide +kernel
theorem dX3_init_10 : decode cX3_init 10 = .ok (.putfield 9, 3) := by decide +kernel
theorem dX3_init_13 : decode cX3_init 13 = .ok (.return_, 1) := by decide +kernel
theorem dX3_hasRoom_0 : decode cX3_hasRoom 0 = .ok (.aload_n 0, 1) := by decide +kernel
theorem dX3_hasRoom_1 : decode cX3_hasRoom 1 = .ok (.getfield 15, 3) := by decide +kernel
theorem dX3_hasRoom_4 : decode cX3_hasRoom 4 = .ok (.iload_n 1, 1) := by decide +kernel
theorem dX3_hasRoom_5 : decode cX3_hasRoom 5 = .ok (.iadd, 1) := by decide +kernel
theorem dX3_hasRoom_6 : decode cX3_hasRoom 6 = .ok (.sipush 800, 3) := by decide +kernel
theorem dX3_hasRoom_9 : decode cX3_hasRoom 9 = .ok (.if_icmp .gt 7, 3) := by decide +kernel
theorem dX3_hasRoom_12 : decode cX3_hasRoom 12 = .ok (.iconst 1, 1) := by decide +kernel
theorem dX3_hasRoom_13 : decode cX3_hasRoom 13 = .ok (.goto 4, 3) := by decide +kernel
theorem dX3_hasRoom_16 : decode cX3_hasRoom 16 = .ok (.iconst 0, 1) := by decide +kernel
theorem dX3_hasRoom_17 : decode cX3_hasRoom 17 = .ok (.ireturn, 1) := by decide +kernel
set_option maxRecDepth 20000 in
theorem ggX3_addFour_X3_hasRoom : GoodIn wsX3_addFour wsX3_hasRoom := goodIn_r _ [7, 2, 8, 9] (by decide +kernel) (by decide +kernel)
set_option maxRecDepth 20000 in
theorem gX3_addFour_X3_hasRoom : GoodIn wsX3_addFour (wsV RX3 19 RX3 yX3_hasRoom wsX3_hasRoom) := goodIn_app (goodIn_of _ (by decide +kernel)) ggX3_addFour_X3_hasRoom
theorem dX3_addFour_0 : decode cX3_addFour 0 = .ok (.bipush 24, 2) := by decide +kernel
theorem dX3_addFour_2 : decode cX3_addFour 2 = .ok (.istore_n 2, 1) := by decide +kernel
theorem dX3_addFour_3 : decode cX3_addFour 3 = .ok (.iload_n 2, 1) := by decide +kernel
theorem dX3_addFour_4 : decode cX3_addFour 4 = .ok (.ifCond .lt 40, 3) := by decide +kernel
theorem dX3_addFour_7 : decode cX3_addFour 7 = .ok (.aload_n 0, 1) := by decide +kernel
theorem dX3_addFour_8 : decode cX3_addFour 8 = .ok (.iconst 1, 1) := by decide +kernel
theorem dX3_addFour_9 : decode cX3_addFour 9 = .ok (.invokevirtual 19, 3) := by decide +kernel
theorem dX3_addFour_12 : decode cX3_addFour 12 = .ok (.ifCond .eq 26, 3) := by decide +kernel
theorem dX3_addFour_15 : decode cX3_addFour 15 = .ok (.aload_n 0, 1) := by decide +kernel
theorem dX3_addFour_16 : decode cX3_addFour 16 = .ok (.getfield 9, 3) := by decide +kernel
theorem dX3_addFour_19 : decode cX3_addFour 19 = .ok (.aload_n 0, 1) := by decide +kernel
theorem dX3_addFour_20 : decode cX3_addFour 20 = .ok (.getfield 15, 3) := by decide +kernel
theorem dX3_addFour_23 : decode cX3_addFour 23 = .ok (.iload_n 1, 1) := by decide +kernel
theorem dX3_addFour_24 : decode cX3_addFour 24 = .ok (.iload_n 2, 1) := by decide +kernel
theorem dX3_addFour_25 : decode cX3_addFour 25 = .ok (.iushr, 1) := by decide +kernel
theorem dX3_addFour_26 : decode cX3_addFour 26 = .ok (.i2b, 1) := by decide +kernel
theorem dX3_addFour_27 : decode cX3_addFour 27 = .ok (.bastore, 1) := by decide +kernel
theorem dX3_addFour_28 : decode cX3_addFour 28 = .ok (.aload_n 0, 1) := by decide +kernel
theorem dX3_addFour_29 : decode cX3_addFour 29 = .ok (.dup, 1) := by decide +kernel
theorem dX3_addFour_30 : decode cX3_addFour 30 = .ok (.getfield 15, 3) := by decide +kernel
theorem dX3_addFour_33 : decode cX3_addFour 33 = .ok (.iconst 1, 1) := by decide +kernel
theorem dX3_addFour_34 : decode cX3_addFour 34 = .ok (.iadd, 1) := by decide +kernel
theorem dX3_addFour_35 : decode cX3_addFour 35 = .ok (.putfield 15, 3) := by decide +kernel
theorem dX3_addFour_38 : decode cX3_addFour 38 = .ok (.iinc 2 (-8), 3) := by decide +kernel
theorem dX3_addFour_41 : decode cX3_addFour 41 = .ok (.goto (-38), 3) := by decide +kernel
theorem dX3_addFour_44 : decode cX3_addFour 44 = .ok (.return_, 1) := by decide +kernel
theorem dX3_byteAt_0 : decode cX3_byteAt 0 = .ok (.iload_n 1, 1) := by decide +kernel
theorem dX3_byteAt_1 : decode cX3_byteAt 1 = .ok (.ifCond .lt 18, 3) := by decide +kernel
theorem dX3_byteAt_4 : decode cX3_byteAt 4 = .ok (.iload_n 1, 1) := by decide +kernel
theorem dX3_byteAt_5 : decode cX3_byteAt 5 = .ok (.aload_n 0, 1) := by decide +kernel
theorem dX3_byteAt_6 : decode cX3_byteAt 6 = .ok (.getfield 15, 3) := by decide +kernel
theorem dX3_byteAt_9 : decode cX3_byteAt 9 = .ok (.if_icmp .ge 10, 3) := by decide +kernel
theorem dX3_byteAt_12 : decode cX3_byteAt 12 = .ok (.iload_n 1, 1) := by decide +kernel
theorem dX3_byteAt_13 : decode cX3_byteAt 13 = .ok (.sipush 800, 3) := by decide +kernel
theorem dX3_byteAt_16 : decode cX3_byteAt 16 = .ok (.if_icmp .lt 7, 3) := by decide +kernel
theorem dX3_byteAt_19 : decode cX3_byteAt 19 = .ok (.iconst (-1), 1) := by decide +kernel
theorem dX3_byteAt_20 : decode cX3_byteAt 20 = .ok (.goto 13, 3) := by decide +kernel
theorem dX3_byteAt_23 : decode cX3_byteAt 23 = .ok (.aload_n 0, 1) := by decide +kernel
theorem dX3_byteAt_24 : decode cX3_byteAt 24 = .ok (.getfield 9, 3) := by decide +kernel
theorem dX3_byteAt_27 : decode cX3_byteAt 27 = .ok (.iload_n 1, 1) := by decide +kernel
theorem dX3_byteAt_28 : decode cX3_byteAt 28 = .ok (.baload, 1) := by decide +kernel
theorem dX3_byteAt_29 : decode cX3_byteAt 29 = .ok (.sipush 255, 3) := by decide +kernel
theorem dX3_byteAt_32 : decode cX3_byteAt 32 = .ok (.iand, 1) := by decide +kernel
theorem dX3_byteAt_33 : decode cX3_byteAt 33 = .ok (.ireturn, 1) := by decide +kernel
theorem dX4_init_0 : decode cX4_init 0 = .ok (.aload_n 0, 1) := by decide +kernel
theorem dX4_init_1 : decode cX4_init 1 = .ok (.invokespecial 3, 3) := by decide +kernel
theorem dX4_init_4 : decode cX4_init 4 = .ok (.aload_n 0, 1) := by decide +kernel
theorem dX4_init_5 : decode cX4_init 5 = .ok (.aload_n 1, 1) := by decide +kernel
theorem dX4_init_6 : decode cX4_init 6 = .ok (.putfield 9, 3) := by decide +kernel
theorem dX4_init_9 : decode cX4_init 9 = .ok (.aload_n 0, 1) := by decide +kernel
theorem dX4_init_10 : decode cX4_init 10 = .ok (.aload_n 2, 1) := by decide +kernel
theorem dX4_init_11 : decode cX4_init 11 = .ok (.putfield 15, 3) := by decide +kernel
theorem dX4_init_14 : decode cX4_init 14 = .ok (.aload_n 0, 1) := by decide +kernel
theorem dX4_init_15 : decode cX4_init 15 = .ok (.aload_n 3, 1) := by decide +kernel
theorem dX4_init_16 : decode cX4_init 16 = .ok (.putfield 18, 3) := by decide +kernel
theorem dX4_init_19 : decode cX4_init 19 = .ok (.aload_n 0, 1) := by decide +kernel
theorem dX4_init_20 : decode cX4_init 20 = .ok (.aload 4, 2) := by decide +kernel
theorem dX4_init_22 : decode cX4_init 22 = .ok (.putfield 21, 3) := by decide +kernel
theorem dX4_init_25 : decode cX4_init 25 = .ok (.return_, 1) := by decide +kernel
theorem dX4_actOf_0 : decode cX4_actOf 0 = .ok (.iload_n 1, 1) := by decide +kernel
theorem dX4_actOf_1 : decode cX4_actOf 1 = .ok (.ifCond .lt 12, 3) := by decide +kernel
theorem dX4_actOf_4 : decode cX4_actOf 4 = .ok (.iload_n 1, 1) := by decide +kernel
theorem dX4_actOf_5 : decode cX4_actOf 5 = .ok (.aload_n 0, 1) := by decide +kernel
theorem dX4_actOf_6 : decode cX4_actOf 6 = .ok (.getfield 9, 3) := by decide +kernel
theorem dX4_actOf_9 : decode cX4_actOf 9 = .ok (.arraylength, 1) := by decide +kernel
theorem dX4_actOf_10 : decode cX4_actOf 10 = .ok (.if_icmp .lt 7, 3) := by decide +kernel
theorem dX4_actOf_13 : decode cX4_actOf 13 = .ok (.iconst 2, 1) := by decide +kernel
theorem dX4_actOf_14 : decode cX4_actOf 14 = .ok (.goto 9, 3) := by decide +kernel
theorem dX4_actOf_17 : decode cX4_actOf 17 = .ok (.aload_n 0, 1) := by decide +kernel
theorem dX4_actOf_18 : decode cX4_actOf 18 = .ok (.getfield 9, 3) := by decide +kernel
theorem dX4_actOf_21 : decode cX4_actOf 21 = .ok (.iload_n 1, 1) := by decide +kernel
theorem dX4_actOf_22 : decode cX4_actOf 22 = .ok (.iaload, 1) := by decide +kernel
theorem dX4_actOf_23 : decode cX4_actOf 23 = .ok (.ireturn, 1) := by decide +kernel
theorem dX4_shareOf_0 : decode cX4_shareOf 0 = .ok (.iload_n 1, 1) := by decide +kernel
theorem dX4_shareOf_1 : decode cX4_shareOf 1 = .ok (.ifCond .lt 12, 3) := by decide +kernel
theorem dX4_shareOf_4 : decode cX4_shareOf 4 = .ok (.iload_n 1, 1) := by decide +kernel
theorem dX4_shareOf_5 : decode cX4_shareOf 5 = .ok (.aload_n 0, 1) := by decide +kernel
theorem dX4_shareOf_6 : decode cX4_shareOf 6 = .ok (.getfield 15, 3) := by decide +kernel
theorem dX4_shareOf_9 : decode cX4_shareOf 9 = .ok (.arraylength, 1) := by decide +kernel
theorem dX4_shareOf_10 : decode cX4_shareOf 10 = .ok (.if_icmp .lt 7, 3) := by decide +kernel
theorem dX4_shareOf_13 : decode cX4_shareOf 13 = .ok (.iconst 0, 1) := by decide +kernel
theorem dX4_shareOf_14 : decode cX4_shareOf 14 = .ok (.goto 9, 3) := by decide +kernel
theorem dX4_shareOf_17 : decode cX4_shareOf 17 = .ok (.aload_n 0, 1) := by decide +kernel
theorem dX4_shareOf_18 : decode cX4_shareOf 18 = .ok (.getfield 15, 3) := by decide +kernel
theorem dX4_shareOf_21 : decode cX4_shareOf 21 = .ok (.iload_n 1, 1) := by decide +kernel
theorem dX4_shareOf_22 : decode cX4_shareOf 22 = .ok (.iaload, 1) := by decide +kernel
theorem dX4_shareOf_23 : decode cX4_shareOf 23 = .ok (.ireturn, 1) := by decide +kernel
theorem dX4_startOf_0 : decode cX4_startOf 0 = .ok (.iload_n 1, 1) := by decide +kernel
theorem dX4_startOf_1 : decode cX4_startOf 1 = .ok (.ifCond .lt 12, 3) := by decide +kernel
theorem dX4_startOf_4 : decode cX4_startOf 4 = .ok (.iload_n 1, 1) := by decide +kernel
theorem dX4_startOf_5 : decode cX4_startOf 5 = .ok (.aload_n 0, 1) := by decide +kernel
theorem dX4_startOf_6 : decode cX4_startOf 6 = .ok (.getfield 18, 3) := by decide +kernel
theorem dX4_startOf_9 : decode cX4_startOf 9 = .ok (.arraylength, 1) := by decide +kernel
theorem dX4_startOf_10 : decode cX4_startOf 10 = .ok (.if_icmp .lt 11, 3) := by decide +kernel
theorem dX4_startOf_13 : decode cX4_startOf 13 = .ok (.aload_n 0, 1) := by decide +kernel
theorem dX4_startOf_14 : decode cX4_startOf 14 = .ok (.getfield 21, 3) := by decide +kernel
theorem dX4_startOf_17 : decode cX4_startOf 17 = .ok (.arraylength, 1) := by decide +kernel
theorem dX4_startOf_18 : decode cX4_startOf 18 = .ok (.goto 9, 3) := by decide +kernel
theorem dX4_startOf_21 : decode cX4_startOf 21 = .ok (.aload_n 0, 1) := by decide +kernel
theorem dX4_startOf_22 : decode cX4_startOf 22 = .ok (.getfield 18, 3) := by decide +kernel
theorem dX4_startOf_25 : decode cX4_startOf 25 = .ok (.iload_n 1, 1) := by decide +kernel
theorem dX4_startOf_26 : decode cX4_startOf 26 = .ok (.iaload, 1) := by decide +kernel
theorem dX4_startOf_27 : decode cX4_startOf 27 = .ok (.ireturn, 1) := by decide +kernel
theorem dX4_codeAt_0 : decode cX4_codeAt 0 = .ok (.iload_n 1, 1) := by decide +kernel
theorem dX4_codeAt_1 : decode cX4_codeAt 1 = .ok (.ifCond .lt 12, 3) := by decide +kernel
theorem dX4_codeAt_4 : decode cX4_codeAt 4 = .ok (.iload_n 1, 1) := by decide +kernel
theorem dX4_codeAt_5 : decode cX4_codeAt 5 = .ok (.aload_n 0, 1) := by decide +kernel
theorem dX4_codeAt_6 : decode cX4_codeAt 6 = .ok (.getfield 21, 3) := by decide +kernel
theorem dX4_codeAt_9 : decode cX4_codeAt 9 = .ok (.arraylength, 1) := by decide +kernel
theorem dX4_codeAt_10 : decode cX4_codeAt 10 = .ok (.if_icmp .lt 7, 3) := by decide +kernel
theorem dX4_codeAt_13 : decode cX4_codeAt 13 = .ok (.iconst 0, 1) := by decide +kernel
theorem dX4_codeAt_14 : decode cX4_codeAt 14 = .ok (.goto 9, 3) := by decide +kernel
theorem dX4_codeAt_17 : decode cX4_codeAt 17 = .ok (.aload_n 0, 1) := by decide +kernel
theorem dX4_codeAt_18 : decode cX4_codeAt 18 = .ok (.getfield 21, 3) := by decide +kernel
theorem dX4_codeAt_21 : decode cX4_codeAt 21 = .ok (.iload_n 1, 1) := by decide +kernel
theorem dX4_codeAt_22 : decode cX4_codeAt 22 = .ok (.iaload, 1) := by decide +kernel
theorem dX4_codeAt_23 : decode cX4_codeAt 23 = .ok (.ireturn, 1) := by decide +kernel
theorem dX5_init_0 : decode cX5_init 0 = .ok (.aload_n 0, 1) := by decide +kernel
theorem dX5_init_1 : decode cX5_init 1 = .ok (.invokespecial 3, 3) := by decide +kernel
theorem dX5_init_4 : decode cX5_init 4 = .ok (.aload_n 0, 1) := by decide +kernel
theorem dX5_init_5 : decode cX5_init 5 = .ok (.bipush 10, 2) := by decide +kernel
theorem dX5_init_7 : decode cX5_init 7 = .ok (.newarray .long, 2) := by decide +kernel
theorem dX5_init_9 : decode cX5_init 9 = .ok (.putfield 9, 3) := by decide +kernel
theorem dX5_init_12 : decode cX5_init 12 = .ok (.aload_n 0, 1) := by decide +kernel
theorem dX5_init_13 : decode cX5_init 13 = .ok (.bipush 64, 2) := by decide +kernel
theorem dX5_init_15 : decode cX5_init 15 = .ok (.newarray .long, 2) := by decide +kernel
theorem dX5_init_17 : decode cX5_init 17 = .ok (.putfield 15, 3) := by decide +kernel
theorem dX5_init_20 : decode cX5_init 20 = .ok (.return_, 1) := by decide +kernel
theorem dX5_tell_0 : decode cX5_tell 0 = .ok (.iload_n 1, 1) := by decide +kernel
theorem dX5_tell_1 : decode cX5_tell 1 = .ok (.bipush 11, 2) := by decide +kernel
theorem dX5_tell_3 : decode cX5_tell 3 = .ok (.if_icmp .lt 19, 3) := by decide +kernel
theorem dX5_tell_6 : decode cX5_tell 6 = .ok (.iload_n 1, 1) := by decide +kernel
theorem dX5_tell_7 : decode cX5_tell 7 = .ok (.bipush 20, 2) := by decide +kernel
theorem dX5_tell_9 : decode cX5_tell 9 = .ok (.if_icmp .gt 13, 3) := by decide +kernel
theorem dX5_tell_12 : decode cX5_tell 12 = .ok (.aload_n 0, 1) := by decide +kernel
theorem dX5_tell_13 : decode cX5_tell 13 = .ok (.getfield 9, 3) := by decide +kernel
theorem dX5_tell_16 : decode cX5_tell 16 = .ok (.iload_n 1, 1) := by decide +kernel
theorem dX5_tell_17 : decode cX5_tell 17 = .ok (.bipush 11, 2) := by decide +kernel
theorem dX5_tell_19 : decode cX5_tell 19 = .ok (.isub, 1) := by decide +kernel
theorem dX5_tell_20 : decode cX5_tell 20 = .ok (.lload_n 2, 1) := by decide +kernel
theorem dX5_tell_21 : decode cX5_tell 21 = .ok (.lastore, 1) := by decide +kernel
theorem dX5_tell_22 : decode cX5_tell 22 = .ok (.return_, 1) := by decide +kernel
set_option maxRecDepth 20000 in
theorem ggX5_firstHeld_X5_holds : GoodIn wsX5_firstHeld wsX5_holds := goodIn_r _ [5, 6, 7, 8, 9, 10, 11, 12, 13, 14, 15, 16, 17, 18, 4, 19, 20, 21, 22, 23, 24, 25, 26, 27, 28, 29, 30, 31, 32, 37, 38, 39, 33, 34, 35, 36] (by decide +kernel) (by decide +kernel)
set_option maxRecDepth 20000 in
theorem gX5_firstHeld_X5_holds : GoodIn wsX5_firstHeld (wsV RX5 24 RX5 yX5_holds wsX5_holds) := goodIn_app (goodIn_of _ (by decide +kernel)) ggX5_firstHeld_X5_holds
theorem dX5_firstHeld_0 : decode cX5_firstHeld 0 = .ok (.iconst 0, 1) := by decide +kernel
theorem dX5_firstHeld_1 : decode cX5_firstHeld 1 = .ok (.istore_n 2, 1) := by decide +kernel
theorem dX5_firstHeld_2 : decode cX5_firstHeld 2 = .ok (.iload_n 2, 1) := by decide +kernel
theorem dX5_firstHeld_3 : decode cX5_firstHeld 3 = .ok (.aload_n 1, 1) := by decide +kernel
theorem dX5_firstHeld_4 : decode cX5_firstHeld 4 = .ok (.getfield 18, 3) := by decide +kernel
theorem dX5_firstHeld_7 : decode cX5_firstHeld 7 = .ok (.arraylength, 1) := by decide +kernel
theorem dX5_firstHeld_8 : decode cX5_firstHeld 8 = .ok (.if_icmp .ge 20, 3) := by decide +kernel
theorem dX5_firstHeld_11 : decode cX5_firstHeld 11 = .ok (.aload_n 0, 1) := by decide +kernel
theorem dX5_firstHeld_12 : decode cX5_firstHeld 12 = .ok (.aload_n 1, 1) := by decide +kernel
theorem dX5_firstHeld_13 : decode cX5_firstHeld 13 = .ok (.iload_n 2, 1) := by decide +kernel
theorem dX5_firstHeld_14 : decode cX5_firstHeld 14 = .ok (.invokevirtual 24, 3) := by decide +kernel
theorem dX5_firstHeld_17 : decode cX5_firstHeld 17 = .ok (.ifCond .eq 5, 3) := by decide +kernel
theorem dX5_firstHeld_20 : decode cX5_firstHeld 20 = .ok (.iload_n 2, 1) := by decide +kernel
theorem dX5_firstHeld_21 : decode cX5_firstHeld 21 = .ok (.ireturn, 1) := by decide +kernel
theorem dX5_firstHeld_22 : decode cX5_firstHeld 22 = .ok (.iinc 2 1, 3) := by decide +kernel
theorem dX5_firstHeld_25 : decode cX5_firstHeld 25 = .ok (.goto (-23), 3) := by decide +kernel
theorem dX5_firstHeld_28 : decode cX5_firstHeld 28 = .ok (.iconst (-1), 1) := by decide +kernel
theorem dX5_firstHeld_29 : decode cX5_firstHeld 29 = .ok (.ireturn, 1) := by decide +kernel
set_option maxRecDepth 20000 in
theorem ggX5_holds_X4_startOf : GoodIn wsX5_holds wsX4_startOf := goodIn_r _ [5, 6, 7, 32, 33, 34, 35] (by decide +kernel) (by decide +kernel)
set_option maxRecDepth 20000 in
theorem gX5_holds_X4_startOf_n28 : GoodIn wsX5_holds (wsX4_startOf) := ggX5_holds_X4_startOf
set_option maxRecDepth 20000 in
theorem ggX5_holds_X4_codeAt : GoodIn wsX5_holds wsX4_codeAt := goodIn_r _ [10, 7, 32, 33, 34, 35] (by decide +kernel) (by decide +kernel)
set_option maxRecDepth 20000 in
theorem gX5_holds_X4_codeAt_n36 : GoodIn wsX5_holds (wsX4_codeAt) := ggX5_holds_X4_codeAt
set_option maxRecDepth 20000 in
theorem ggX5_holds_X5_doStep : GoodIn wsX5_holds wsX5_doStep := goodIn_r _ [15, 16, 17, 18, 19, 14, 20, 1, 21, 22, 23, 24, 25, 26, 27, 28, 29, 30, 31] (by decide +kernel) (by decide +kernel)
set_option maxRecDepth 20000 in
theorem gX5_holds_X5_doStep : GoodIn wsX5_holds (wsV RX5 39 RX5 yX5_doStep wsX5_doStep) := goodIn_app (goodIn_of _ (by decide +kernel)) ggX5_holds_X5_doStep
set_option maxRecDepth 20000 in
theorem ggX5_holds_X5_pop : GoodIn wsX5_holds wsX5_pop := goodIn_r _ [25, 1, 21, 29, 30, 31] (by decide +kernel) (by decide +kernel)
set_option maxRecDepth 20000 in
theorem gX5_holds_X5_pop : GoodIn wsX5_holds (wsV RX5 43 RX5 yX5_pop wsX5_pop) := goodIn_app (goodIn_of _ (by decide +kernel)) ggX5_holds_X5_pop
theorem dX5_holds_0 : decode cX5_holds 0 = .ok (.aload_n 1, 1) := by decide +kernel
theorem dX5_holds_1 : decode cX5_holds 1 = .ok (.iload_n 2, 1) := by decide +kernel
theorem dX5_holds_2 : decode cX5_holds 2 = .ok (.invokevirtual 28, 3) := by decide +kernel
theorem dX5_holds_5 : decode cX5_holds 5 = .ok (.istore_n 3, 1) := by decide +kernel
theorem dX5_holds_6 : decode cX5_holds 6 = .ok (.aload_n 1, 1) := by decide +kernel
theorem dX5_holds_7 : decode cX5_holds 7 = .ok (.iload_n 2, 1) := by decide +kernel
theorem dX5_holds_8 : decode cX5_holds 8 = .ok (.iconst 1, 1) := by decide +kernel
theorem dX5_holds_9 : decode cX5_holds 9 = .ok (.iadd, 1) := by decide +kernel
theorem dX5_holds_10 : decode cX5_holds 10 = .ok (.invokevirtual 28, 3) := by decide +kernel
theorem dX5_holds_13 : decode cX5_holds 13 = .ok (.istore 4, 2) := by decide +kernel
theorem dX5_holds_15 : decode cX5_holds 15 = .ok (.aload_n 0, 1) := by decide +kernel
theorem dX5_holds_16 : decode cX5_holds 16 = .ok (.iconst 0, 1) := by decide +kernel
theorem dX5_holds_17 : decode cX5_holds 17 = .ok (.putfield 32, 3) := by decide +kernel
theorem dX5_holds_20 : decode cX5_holds 20 = .ok (.iload_n 3, 1) := by decide +kernel
theorem dX5_holds_21 : decode cX5_holds 21 = .ok (.istore 5, 2) := by decide +kernel
theorem dX5_holds_23 : decode cX5_holds 23 = .ok (.iload 5, 2) := by decide +kernel
theorem dX5_holds_25 : decode cX5_holds 25 = .ok (.iload 4, 2) := by decide +kernel
theorem dX5_holds_27 : decode cX5_holds 27 = .ok (.if_icmp .ge 19, 3) := by decide +kernel
theorem dX5_holds_30 : decode cX5_holds 30 = .ok (.aload_n 0, 1) := by decide +kernel
theorem dX5_holds_31 : decode cX5_holds 31 = .ok (.aload_n 1, 1) := by decide +kernel
theorem dX5_holds_32 : decode cX5_holds 32 = .ok (.iload 5, 2) := by decide +kernel
theorem dX5_holds_34 : decode cX5_holds 34 = .ok (.invokevirtual 36, 3) := by decide +kernel
theorem dX5_holds_37 : decode cX5_holds 37 = .ok (.invokevirtual 39, 3) := by decide +kernel
theorem dX5_holds_40 : decode cX5_holds 40 = .ok (.iinc 5 1, 3) := by decide +kernel
theorem dX5_holds_43 : decode cX5_holds 43 = .ok (.goto (-20), 3) := by decide +kernel
theorem dX5_holds_46 : decode cX5_holds 46 = .ok (.iload_n 3, 1) := by decide +kernel
theorem dX5_holds_47 : decode cX5_holds 47 = .ok (.iload 4, 2) := by decide +kernel
theorem dX5_holds_49 : decode cX5_holds 49 = .ok (.if_icmp .ge 12, 3) := by decide +kernel
theorem dX5_holds_52 : decode cX5_holds 52 = .ok (.aload_n 0, 1) := by decide +kernel
theorem dX5_holds_53 : decode cX5_holds 53 = .ok (.invokevirtual 43, 3) := by decide +kernel
theorem dX5_holds_56 : decode cX5_holds 56 = .ok (.lconst 0, 1) := by decide +kernel
theorem dX5_holds_57 : decode cX5_holds 57 = .ok (.lcmp, 1) := by decide +kernel
theorem dX5_holds_58 : decode cX5_holds 58 = .ok (.ifCond .eq 7, 3) := by decide +kernel
theorem dX5_holds_61 : decode cX5_holds 61 = .ok (.iconst 1, 1) := by decide +kernel
theorem dX5_holds_62 : decode cX5_holds 62 = .ok (.goto 4, 3) := by decide +kernel
theorem dX5_holds_65 : decode cX5_holds 65 = .ok (.iconst 0, 1) := by decide +kernel
theorem dX5_holds_66 : decode cX5_holds 66 = .ok (.ireturn, 1) := by decide +kernel
set_option maxRecDepth 20000 in
theorem ggX5_doStep_X5_push : GoodIn wsX5_doStep wsX5_push := goodIn_r _ [6, 7, 8, 16, 17, 18] (by decide +kernel) (by decide +kernel)
set_option maxRecDepth 20000 in
theorem gX5_doStep_X5_push : GoodIn wsX5_doStep (wsV RX5 47 RX5 yX5_push wsX5_push) := goodIn_app (goodIn_of _ (by decide +kernel)) ggX5_doStep_X5_push
set_option maxRecDepth 20000 in
theorem ggX5_doStep_X5_pop : GoodIn wsX5_doStep wsX5_pop := goodIn_r _ [12, 7, 8, 16, 17, 18] (by decide +kernel) (by decide +kernel)
set_option maxRecDepth 20000 in
theorem gX5_doStep_X5_pop : GoodIn wsX5_doStep (wsV RX5 43 RX5 yX5_pop wsX5_pop) := goodIn_app (goodIn_of _ (by decide +kernel)) ggX5_doStep_X5_pop
set_option maxRecDepth 20000 in
theorem ggX5_doStep_X5_joined : GoodIn wsX5_doStep wsX5_joined := goodIn_r _ [15] (by decide +kernel) (by decide +kernel)
set_option maxRecDepth 20000 in
theorem gX5_doStep_X5_joined : GoodIn wsX5_doStep (va_wsS RX5 51 yX5_joined wsX5_joined) := goodIn_app (goodIn_of _ (by decide +kernel)) ggX5_doStep_X5_joined
theorem dX5_doStep_0 : decode cX5_doStep 0 = .ok (.iload_n 1, 1) := by decide +kernel
theorem dX5_doStep_1 : decode cX5_doStep 1 = .ok (.ineg, 1) := by decide +kernel
theorem dX5_doStep_2 : decode cX5_doStep 2 = .ok (.istore_n 2, 1) := by decide +kernel
theorem dX5_doStep_3 : decode cX5_doStep 3 = .ok (.iload_n 1, 1) := by decide +kernel
theorem dX5_doStep_4 : decode cX5_doStep 4 = .ok (.ifCond .lt 12, 3) := by decide +kernel
theorem dX5_doStep_7 : decode cX5_doStep 7 = .ok (.aload_n 0, 1) := by decide +kernel
theorem dX5_doStep_8 : decode cX5_doStep 8 = .ok (.iload_n 1, 1) := by decide +kernel
theorem dX5_doStep_9 : decode cX5_doStep 9 = .ok (.i2l, 1) := by decide +kernel
theorem dX5_doStep_10 : decode cX5_doStep 10 = .ok (.invokevirtual 47, 3) := by decide +kernel
theorem dX5_doStep_13 : decode cX5_doStep 13 = .ok (.goto 80, 3) := by decide +kernel
theorem dX5_doStep_16 : decode cX5_doStep 16 = .ok (.iload_n 2, 1) := by decide +kernel
theorem dX5_doStep_17 : decode cX5_doStep 17 = .ok (.bipush 11, 2) := by decide +kernel
theorem dX5_doStep_19 : decode cX5_doStep 19 = .ok (.if_icmp .lt 25, 3) := by decide +kernel
theorem dX5_doStep_22 : decode cX5_doStep 22 = .ok (.iload_n 2, 1) := by decide +kernel
theorem dX5_doStep_23 : decode cX5_doStep 23 = .ok (.bipush 20, 2) := by decide +kernel
theorem dX5_doStep_25 : decode cX5_doStep 25 = .ok (.if_icmp .gt 19, 3) := by decide +kernel
theorem dX5_doStep_28 : decode cX5_doStep 28 = .ok (.aload_n 0, 1) := by decide +kernel
theorem dX5_doStep_29 : decode cX5_doStep 29 = .ok (.aload_n 0, 1) := by decide +kernel
theorem dX5_doStep_30 : decode cX5_doStep 30 = .ok (.getfield 9, 3) := by decide +kernel
theorem dX5_doStep_33 : decode cX5_doStep 33 = .ok (.iload_n 2, 1) := by decide +kernel
theorem dX5_doStep_34 : decode cX5_doStep 34 = .ok (.bipush 11, 2) := by decide +kernel
theorem dX5_doStep_36 : decode cX5_doStep 36 = .ok (.isub, 1) := by decide +kernel
theorem dX5_doStep_37 : decode cX5_doStep 37 = .ok (.laload, 1) := by decide +kernel
theorem dX5_doStep_38 : decode cX5_doStep 38 = .ok (.invokevirtual 47, 3) := by decide +kernel
theorem dX5_doStep_41 : decode cX5_doStep 41 = .ok (.goto 52, 3) := by decide +kernel
theorem dX5_doStep_44 : decode cX5_doStep 44 = .ok (.iload_n 2, 1) := by decide +kernel
theorem dX5_doStep_45 : decode cX5_doStep 45 = .ok (.bipush 10, 2) := by decide +kernel
theorem dX5_doStep_47 : decode cX5_doStep 47 = .ok (.if_icmp .ne 24, 3) := by decide +kernel
theorem dX5_doStep_50 : decode cX5_doStep 50 = .ok (.aload_n 0, 1) := by decide +kernel
theorem dX5_doStep_51 : decode cX5_doStep 51 = .ok (.aload_n 0, 1) := by decide +kernel
theorem dX5_doStep_52 : decode cX5_doStep 52 = .ok (.invokevirtual 43, 3) := by decide +kernel
theorem dX5_doStep_55 : decode cX5_doStep 55 = .ok (.lconst 0, 1) := by decide +kernel
theorem dX5_doStep_56 : decode cX5_doStep 56 = .ok (.lcmp, 1) := by decide +kernel
theorem dX5_doStep_57 : decode cX5_doStep 57 = .ok (.ifCond .ne 7, 3) := by decide +kernel
theorem dX5_doStep_60 : decode cX5_doStep 60 = .ok (.lconst 1, 1) := by decide +kernel
theorem dX5_doStep_61 : decode cX5_doStep 61 = .ok (.goto 4, 3) := by decide +kernel
theorem dX5_doStep_64 : decode cX5_doStep 64 = .ok (.lconst 0, 1) := by decide +kernel
theorem dX5_doStep_65 : decode cX5_doStep 65 = .ok (.invokevirtual 47, 3) := by decide +kernel
theorem dX5_doStep_68 : decode cX5_doStep 68 = .ok (.goto 25, 3) := by decide +kernel
theorem dX5_doStep_71 : decode cX5_doStep 71 = .ok (.aload_n 0, 1) := by decide +kernel
theorem dX5_doStep_72 : decode cX5_doStep 72 = .ok (.invokevirtual 43, 3) := by decide +kernel
theorem dX5_doStep_75 : decode cX5_doStep 75 = .ok (.lstore_n 3, 1) := by decide +kernel
theorem dX5_doStep_76 : decode cX5_doStep 76 = .ok (.aload_n 0, 1) := by decide +kernel
theorem dX5_doStep_77 : decode cX5_doStep 77 = .ok (.invokevirtual 43, 3) := by decide +kernel
theorem dX5_doStep_80 : decode cX5_doStep 80 = .ok (.lstore 5, 2) := by decide +kernel
theorem dX5_doStep_82 : decode cX5_doStep 82 = .ok (.aload_n 0, 1) := by decide +kernel
theorem dX5_doStep_83 : decode cX5_doStep 83 = .ok (.iload_n 2, 1) := by decide +kernel
theorem dX5_doStep_84 : decode cX5_doStep 84 = .ok (.lload 5, 2) := by decide +kernel
theorem dX5_doStep_86 : decode cX5_doStep 86 = .ok (.lload_n 3, 1) := by decide +kernel
theorem dX5_doStep_87 : decode cX5_doStep 87 = .ok (.invokestatic 51, 3) := by decide +kernel
theorem dX5_doStep_90 : decode cX5_doStep 90 = .ok (.invokevirtual 47, 3) := by decide +kernel
theorem dX5_doStep_93 : decode cX5_doStep 93 = .ok (.return_, 1) := by decide +kernel
theorem dX5_joined_0 : decode cX5_joined 0 = .ok (.iload_n 0, 1) := by decide +kernel
theorem dX5_joined_1 : decode cX5_joined 1 = .ok (.lookupswitch 119 #[(8, 115), (42, 75), (43, 67), (45, 71), (60, 79), (61, 91), (62, 103)], 67) := by decide +kernel
theorem dX5_joined_68 : decode cX5_joined 68 = .ok (.lload_n 1, 1) := by decide +kernel
theorem dX5_joined_69 : decode cX5_joined 69 = .ok (.lload_n 3, 1) := by decide +kernel
theorem dX5_joined_70 : decode cX5_joined 70 = .ok (.ladd, 1) := by decide +kernel
theorem dX5_joined_71 : decode cX5_joined 71 = .ok (.lreturn, 1) := by decide +kernel
theorem dX5_joined_72 : decode cX5_joined 72 = .ok (.lload_n 1, 1) := by decide +kernel
theorem dX5_joined_73 : decode cX5_joined 73 = .ok (.lload_n 3, 1) := by decide +kernel
theorem dX5_joined_74 : decode cX5_joined 74 = .ok (.lsub, 1) := by decide +kernel
theorem dX5_joined_75 : decode cX5_joined 75 = .ok (.lreturn, 1) := by decide +kernel
theorem dX5_joined_76 : decode cX5_joined 76 = .ok (.lload_n 1, 1) := by decide +kernel
theorem dX5_joined_77 : decode cX5_joined 77 = .ok (.lload_n 3, 1) := by decide +kernel
theorem dX5_joined_78 : decode cX5_joined 78 = .ok (.lmul, 1) := by decide +kernel
theorem dX5_joined_79 : decode cX5_joined 79 = .ok (.lreturn, 1) := by decide +kernel
theorem dX5_joined_80 : decode cX5_joined 80 = .ok (.lload_n 1, 1) := by decide +kernel
theorem dX5_joined_81 : decode cX5_joined 81 = .ok (.lload_n 3, 1) := by decide +kernel
theorem dX5_joined_82 : decode cX5_joined 82 = .ok (.lcmp, 1) := by decide +kernel
theorem dX5_joined_83 : decode cX5_joined 83 = .ok (.ifCond .ge 7, 3) := by decide +kernel
theorem dX5_joined_86 : decode cX5_joined 86 = .ok (.lconst 1, 1) := by decide +kernel
theorem dX5_joined_87 : decode cX5_joined 87 = .ok (.goto 4, 3) := by decide +kernel
theorem dX5_joined_90 : decode cX5_joined 90 = .ok (.lconst 0, 1) := by decide +kernel
theorem dX5_joined_91 : decode cX5_joined 91 = .ok (.lreturn, 1) := by decide +kernel
theorem dX5_joined_92 : decode cX5_joined 92 = .ok (.lload_n 1, 1) := by decide +kernel
theorem dX5_joined_93 : decode cX5_joined 93 = .ok (.lload_n 3, 1) := by decide +kernel
theorem dX5_joined_94 : decode cX5_joined 94 = .ok (.lcmp, 1) := by decide +kernel
theorem dX5_joined_95 : decode cX5_joined 95 = .ok (.ifCond .ne 7, 3) := by decide +kernel
theorem dX5_joined_98 : decode cX5_joined 98 = .ok (.lconst 1, 1) := by decide +kernel
theorem dX5_joined_99 : decode cX5_joined 99 = .ok (.goto 4, 3) := by decide +kernel
theorem dX5_joined_102 : decode cX5_joined 102 = .ok (.lconst 0, 1) := by decide +kernel
theorem dX5_joined_103 : decode cX5_joined 103 = .ok (.lreturn, 1) := by decide +kernel
theorem dX5_joined_104 : decode cX5_joined 104 = .ok (.lload_n 1, 1) := by decide +kernel
theorem dX5_joined_105 : decode cX5_joined 105 = .ok (.lload_n 3, 1) := by decide +kernel
theorem dX5_joined_106 : decode cX5_joined 106 = .ok (.lcmp, 1) := by decide +kernel
theorem dX5_joined_107 : decode cX5_joined 107 = .ok (.ifCond .le 7, 3) := by decide +kernel
theorem dX5_joined_110 : decode cX5_joined 110 = .ok (.lconst 1, 1) := by decide +kernel
theorem dX5_joined_111 : decode cX5_joined 111 = .ok (.goto 4, 3) := by decide +kernel
theorem dX5_joined_114 : decode cX5_joined 114 = .ok (.lconst 0, 1) := by decide +kernel
theorem dX5_joined_115 : decode cX5_joined 115 = .ok (.lreturn, 1) := by decide +kernel
theorem dX5_joined_116 : decode cX5_joined 116 = .ok (.lload_n 1, 1) := by decide +kernel
theorem dX5_joined_117 : decode cX5_joined 117 = .ok (.lload_n 3, 1) := by decide +kernel
theorem dX5_joined_118 : decode cX5_joined 118 = .ok (.land, 1) := by decide +kernel
theorem dX5_joined_119 : decode cX5_joined 119 = .ok (.lreturn, 1) := by decide +kernel
theorem dX5_joined_120 : decode cX5_joined 120 = .ok (.lload_n 1, 1) := by decide +kernel
theorem dX5_joined_121 : decode cX5_joined 121 = .ok (.lload_n 3, 1) := by decide +kernel
theorem dX5_joined_122 : decode cX5_joined 122 = .ok (.lor, 1) := by decide +kernel
theorem dX5_joined_123 : decode cX5_joined 123 = .ok (.lreturn, 1) := by decide +kernel
theorem dX5_push_0 : decode cX5_push 0 = .ok (.aload_n 0, 1) := by decide +kernel
theorem dX5_push_1 : decode cX5_push 1 = .ok (.getfield 32, 3) := by decide +kernel
theorem dX5_push_4 : decode cX5_push 4 = .ok (.bipush 64, 2) := by decide +kernel
theorem dX5_push_6 : decode cX5_push 6 = .ok (.if_icmp .ge 23, 3) := by decide +kernel
theorem dX5_push_9 : decode cX5_push 9 = .ok (.aload_n 0, 1) := by decide +kernel
theorem dX5_push_10 : decode cX5_push 10 = .ok (.getfield 15, 3) := by decide +kernel
theorem dX5_push_13 : decode cX5_push 13 = .ok (.aload_n 0, 1) := by decide +kernel
theorem dX5_push_14 : decode cX5_push 14 = .ok (.getfield 32, 3) := by decide +kernel
theorem dX5_push_17 : decode cX5_push 17 = .ok (.lload_n 1, 1) := by decide +kernel
theorem dX5_push_18 : decode cX5_push 18 = .ok (.lastore, 1) := by decide +kernel
theorem dX5_push_19 : decode cX5_push 19 = .ok (.aload_n 0, 1) := by decide +kernel
theorem dX5_push_20 : decode cX5_push 20 = .ok (.dup, 1) := by decide +kernel
theorem dX5_push_21 : decode cX5_push 21 = .ok (.getfield 32, 3) := by decide +kernel
theorem dX5_push_24 : decode cX5_push 24 = .ok (.iconst 1, 1) := by decide +kernel
theorem dX5_push_25 : decode cX5_push 25 = .ok (.iadd, 1) := by decide +kernel
theorem dX5_push_26 : decode cX5_push 26 = .ok (.putfield 32, 3) := by decide +kernel
theorem dX5_push_29 : decode cX5_push 29 = .ok (.return_, 1) := by decide +kernel
theorem dX5_pop_0 : decode cX5_pop 0 = .ok (.aload_n 0, 1) := by decide +kernel
theorem dX5_pop_1 : decode cX5_pop 1 = .ok (.getfield 32, 3) := by decide +kernel
theorem dX5_pop_4 : decode cX5_pop 4 = .ok (.iconst 1, 1) := by decide +kernel
theorem dX5_pop_5 : decode cX5_pop 5 = .ok (.if_icmp .ge 5, 3) := by decide +kernel
theorem dX5_pop_8 : decode cX5_pop 8 = .ok (.lconst 0, 1) := by decide +kernel
theorem dX5_pop_9 : decode cX5_pop 9 = .ok (.lreturn, 1) := by decide +kernel
theorem dX5_pop_10 : decode cX5_pop 10 = .ok (.aload_n 0, 1) := by decide +kernel
theorem dX5_pop_11 : decode cX5_pop 11 = .ok (.dup, 1) := by decide +kernel
theorem dX5_pop_12 : decode cX5_pop 12 = .ok (.getfield 32, 3) := by decide +kernel
theorem dX5_pop_15 : decode cX5_pop 15 = .ok (.iconst 1, 1) := by decide +kernel
theorem dX5_pop_16 : decode cX5_pop 16 = .ok (.isub, 1) := by decide +kernel
theorem dX5_pop_17 : decode cX5_pop 17 = .ok (.putfield 32, 3) := by decide +kernel
theorem dX5_pop_20 : decode cX5_pop 20 = .ok (.aload_n 0, 1) := by decide +kernel
theorem dX5_pop_21 : decode cX5_pop 21 = .ok (.getfield 15, 3) := by decide +kernel
theorem dX5_pop_24 : decode cX5_pop 24 = .ok (.aload_n 0, 1) := by decide +kernel
theorem dX5_pop_25 : decode cX5_pop 25 = .ok (.getfield 32, 3) := by decide +kernel
theorem dX5_pop_28 : decode cX5_pop 28 = .ok (.laload, 1) := by decide +kernel
theorem dX5_pop_29 : decode cX5_pop 29 = .ok (.lreturn, 1) := by decide +kernel
set_option maxRecDepth 20000 in
theorem ggX6_init_X3_init : GoodIn wsX6_init wsX3_init := goodIn_r _ [38, 39, 2, 3, 40, 41, 74, 75] (by decide +kernel) (by decide +kernel)
set_option maxRecDepth 20000 in
theorem gX6_init_X3_init_n9 : GoodIn wsX6_init (wsX3_init) := ggX6_init_X3_init
set_option maxRecDepth 20000 in
theorem ggX6_init_X1_init : GoodIn wsX6_init wsX1_init := goodIn_r _ [43, 44, 2, 3, 26, 45, 46, 47, 48, 49, 50, 94, 95, 96, 97, 98, 99, 100, 101, 102, 103, 104, 105, 106, 107, 108, 109, 110] (by decide +kernel) (by decide +kernel)
set_option maxRecDepth 20000 in
theorem gX6_init_X1_init_n18 : GoodIn wsX6_init (wsX1_init) := ggX6_init_X1_init
set_option maxRecDepth 20000 in
theorem ggX6_init_X5_init : GoodIn wsX6_init wsX5_init := goodIn_r _ [52, 53, 2, 3, 22, 54, 55, 111, 112, 113] (by decide +kernel) (by decide +kernel)
set_option maxRecDepth 20000 in
theorem gX6_init_X5_init_n27 : GoodIn wsX6_init (wsX5_init) := ggX6_init_X5_init
set_option maxRecDepth 20000 in
theorem ggX6_init_X2_init : GoodIn wsX6_init wsX2_init := goodIn_r _ [57, 58, 2, 3, 59, 60, 61, 62, 63, 64, 26, 65, 114, 115, 116, 117] (by decide +kernel) (by decide +kernel)
set_option maxRecDepth 20000 in
theorem gX6_init_X2_init_n40 : GoodIn wsX6_init (wsX2_init) := ggX6_init_X2_init
set_option maxRecDepth 20000 in
theorem ggX6_init_X0_init : GoodIn wsX6_init wsX0_init := goodIn_r _ [67, 68, 2, 3, 26, 69, 118] (by decide +kernel) (by decide +kernel)
set_option maxRecDepth 20000 in
theorem gX6_init_X0_init_n76 : GoodIn wsX6_init (wsX0_init) := ggX6_init_X0_init
set_option maxRecDepth 20000 in
theorem ggX6_init_J7_fill_53178 : GoodIn wsX6_init wsJ7_fill_53178 := goodIn_r _ [73] (by decide +kernel) (by decide +kernel)
set_option maxRecDepth 20000 in
theorem gX6_init_J7_fill_53178 : GoodIn wsX6_init (va_wsS RX6 81 yJ7_fill_53178 wsJ7_fill_53178) := goodIn_app (goodIn_of _ (by decide +kernel)) ggX6_init_J7_fill_53178
theorem dX6_init_0 : decode cX6_init 0 = .ok (.aload_n 0, 1) := by decide +kernel
theorem dX6_init_1 : decode cX6_init 1 = .ok (.invokespecial 1, 3) := by decide +kernel
theorem dX6_init_4 : decode cX6_init 4 = .ok (.aload_n 0, 1) := by decide +kernel
theorem dX6_init_5 : decode cX6_init 5 = .ok (.new 7, 3) := by decide +kernel
theorem dX6_init_8 : decode cX6_init 8 = .ok (.dup, 1) := by decide +kernel
theorem dX6_init_9 : decode cX6_init 9 = .ok (.invokespecial 9, 3) := by decide +kernel
theorem dX6_init_12 : decode cX6_init 12 = .ok (.putfield 10, 3) := by decide +kernel
theorem dX6_init_15 : decode cX6_init 15 = .ok (.aload_n 0, 1) := by decide +kernel
theorem dX6_init_16 : decode cX6_init 16 = .ok (.new 16, 3) := by decide +kernel
theorem dX6_init_19 : decode cX6_init 19 = .ok (.dup, 1) := by decide +kernel
theorem dX6_init_20 : decode cX6_init 20 = .ok (.aload_n 0, 1) := by decide +kernel
theorem dX6_init_21 : decode cX6_init 21 = .ok (.getfield 10, 3) := by decide +kernel
theorem dX6_init_24 : decode cX6_init 24 = .ok (.invokespecial 18, 3) := by decide +kernel
theorem dX6_init_27 : decode cX6_init 27 = .ok (.putfield 21, 3) := by decide +kernel
theorem dX6_init_30 : decode cX6_init 30 = .ok (.aload_n 0, 1) := by decide +kernel
theorem dX6_init_31 : decode cX6_init 31 = .ok (.new 25, 3) := by decide +kernel
theorem dX6_init_34 : decode cX6_init 34 = .ok (.dup, 1) := by decide +kernel
theorem dX6_init_35 : decode cX6_init 35 = .ok (.invokespecial 27, 3) := by decide +kernel
theorem dX6_init_38 : decode cX6_init 38 = .ok (.putfield 28, 3) := by decide +kernel
theorem dX6_init_41 : decode cX6_init 41 = .ok (.aload_n 0, 1) := by decide +kernel
theorem dX6_init_42 : decode cX6_init 42 = .ok (.bipush 10, 2) := by decide +kernel
theorem dX6_init_44 : decode cX6_init 44 = .ok (.anewarray 32, 3) := by decide +kernel
theorem dX6_init_47 : decode cX6_init 47 = .ok (.putfield 34, 3) := by decide +kernel
theorem dX6_init_50 : decode cX6_init 50 = .ok (.aload_n 0, 1) := by decide +kernel
theorem dX6_init_51 : decode cX6_init 51 = .ok (.new 38, 3) := by decide +kernel
theorem dX6_init_54 : decode cX6_init 54 = .ok (.dup, 1) := by decide +kernel
theorem dX6_init_55 : decode cX6_init 55 = .ok (.iconst 2, 1) := by decide +kernel
theorem dX6_init_56 : decode cX6_init 56 = .ok (.bipush 40, 2) := by decide +kernel
theorem dX6_init_58 : decode cX6_init 58 = .ok (.invokespecial 40, 3) := by decide +kernel
theorem dX6_init_61 : decode cX6_init 61 = .ok (.putfield 43, 3) := by decide +kernel
theorem dX6_init_64 : decode cX6_init 64 = .ok (.aload_n 0, 1) := by decide +kernel
theorem dX6_init_65 : decode cX6_init 65 = .ok (.bipush 16, 2) := by decide +kernel
theorem dX6_init_67 : decode cX6_init 67 = .ok (.newarray .long, 2) := by decide +kernel
theorem dX6_init_69 : decode cX6_init 69 = .ok (.putfield 47, 3) := by decide +kernel
theorem dX6_init_72 : decode cX6_init 72 = .ok (.aload_n 0, 1) := by decide +kernel
theorem dX6_init_73 : decode cX6_init 73 = .ok (.bipush 16, 2) := by decide +kernel
theorem dX6_init_75 : decode cX6_init 75 = .ok (.newarray .boolean, 2) := by decide +kernel
theorem dX6_init_77 : decode cX6_init 77 = .ok (.putfield 51, 3) := by decide +kernel
theorem dX6_init_80 : decode cX6_init 80 = .ok (.aload_n 0, 1) := by decide +kernel
theorem dX6_init_81 : decode cX6_init 81 = .ok (.bipush 16, 2) := by decide +kernel
theorem dX6_init_83 : decode cX6_init 83 = .ok (.newarray .int, 2) := by decide +kernel
theorem dX6_init_85 : decode cX6_init 85 = .ok (.putfield 55, 3) := by decide +kernel
theorem dX6_init_88 : decode cX6_init 88 = .ok (.aload_n 0, 1) := by decide +kernel
theorem dX6_init_89 : decode cX6_init 89 = .ok (.bipush 8, 2) := by decide +kernel
theorem dX6_init_91 : decode cX6_init 91 = .ok (.newarray .int, 2) := by decide +kernel
theorem dX6_init_93 : decode cX6_init 93 = .ok (.putfield 59, 3) := by decide +kernel
theorem dX6_init_96 : decode cX6_init 96 = .ok (.aload_n 0, 1) := by decide +kernel
theorem dX6_init_97 : decode cX6_init 97 = .ok (.bipush 8, 2) := by decide +kernel
theorem dX6_init_99 : decode cX6_init 99 = .ok (.newarray .int, 2) := by decide +kernel
theorem dX6_init_101 : decode cX6_init 101 = .ok (.putfield 62, 3) := by decide +kernel
theorem dX6_init_104 : decode cX6_init 104 = .ok (.aload_n 0, 1) := by decide +kernel
theorem dX6_init_105 : decode cX6_init 105 = .ok (.new 38, 3) := by decide +kernel
theorem dX6_init_108 : decode cX6_init 108 = .ok (.dup, 1) := by decide +kernel
theorem dX6_init_109 : decode cX6_init 109 = .ok (.bipush 7, 2) := by decide +kernel
theorem dX6_init_111 : decode cX6_init 111 = .ok (.sipush 400, 3) := by decide +kernel
theorem dX6_init_114 : decode cX6_init 114 = .ok (.invokespecial 40, 3) := by decide +kernel
theorem dX6_init_117 : decode cX6_init 117 = .ok (.putfield 65, 3) := by decide +kernel
theorem dX6_init_120 : decode cX6_init 120 = .ok (.aload_n 0, 1) := by decide +kernel
theorem dX6_init_121 : decode cX6_init 121 = .ok (.new 38, 3) := by decide +kernel
theorem dX6_init_124 : decode cX6_init 124 = .ok (.dup, 1) := by decide +kernel
theorem dX6_init_125 : decode cX6_init 125 = .ok (.bipush 8, 2) := by decide +kernel
theorem dX6_init_127 : decode cX6_init 127 = .ok (.sipush 4000, 3) := by decide +kernel
theorem dX6_init_130 : decode cX6_init 130 = .ok (.invokespecial 40, 3) := by decide +kernel
theorem dX6_init_133 : decode cX6_init 133 = .ok (.putfield 68, 3) := by decide +kernel
theorem dX6_init_136 : decode cX6_init 136 = .ok (.aload_n 0, 1) := by decide +kernel
theorem dX6_init_137 : decode cX6_init 137 = .ok (.new 38, 3) := by decide +kernel
theorem dX6_init_140 : decode cX6_init 140 = .ok (.dup, 1) := by decide +kernel
theorem dX6_init_141 : decode cX6_init 141 = .ok (.iconst 1, 1) := by decide +kernel
theorem dX6_init_142 : decode cX6_init 142 = .ok (.sipush 2000, 3) := by decide +kernel
theorem dX6_init_145 : decode cX6_init 145 = .ok (.invokespecial 40, 3) := by decide +kernel
theorem dX6_init_148 : decode cX6_init 148 = .ok (.putfield 71, 3) := by decide +kernel
theorem dX6_init_151 : decode cX6_init 151 = .ok (.aload_n 0, 1) := by decide +kernel
theorem dX6_init_152 : decode cX6_init 152 = .ok (.new 74, 3) := by decide +kernel
theorem dX6_init_155 : decode cX6_init 155 = .ok (.dup, 1) := by decide +kernel
theorem dX6_init_156 : decode cX6_init 156 = .ok (.invokespecial 76, 3) := by decide +kernel
theorem dX6_init_159 : decode cX6_init 159 = .ok (.putfield 77, 3) := by decide +kernel
theorem dX6_init_162 : decode cX6_init 162 = .ok (.aload_n 0, 1) := by decide +kernel
theorem dX6_init_163 : decode cX6_init 163 = .ok (.getfield 55, 3) := by decide +kernel
theorem dX6_init_166 : decode cX6_init 166 = .ok (.iconst (-1), 1) := by decide +kernel
theorem dX6_init_167 : decode cX6_init 167 = .ok (.invokestatic 81, 3) := by decide +kernel
theorem dX6_init_170 : decode cX6_init 170 = .ok (.aload_n 0, 1) := by decide +kernel
theorem dX6_init_171 : decode cX6_init 171 = .ok (.getfield 62, 3) := by decide +kernel
theorem dX6_init_174 : decode cX6_init 174 = .ok (.iconst (-1), 1) := by decide +kernel
theorem dX6_init_175 : decode cX6_init 175 = .ok (.invokestatic 81, 3) := by decide +kernel
theorem dX6_init_178 : decode cX6_init 178 = .ok (.return_, 1) := by decide +kernel
set_option maxRecDepth 20000 in
theorem ggX6_feed_X3_hasRoom : GoodIn wsX6_feed wsX3_hasRoom := goodIn_r _ [5, 6, 30, 31] (by decide +kernel) (by decide +kernel)
set_option maxRecDepth 20000 in
theorem gX6_feed_X3_hasRoom_n87 : GoodIn wsX6_feed (wsX3_hasRoom) := ggX6_feed_X3_hasRoom
set_option maxRecDepth 20000 in
theorem ggX6_feed_X3_addFour : GoodIn wsX6_feed wsX3_addFour := goodIn_r _ [9, 10, 6, 11, 2, 4, 3, 5, 30, 31] (by decide +kernel) (by decide +kernel)
set_option maxRecDepth 20000 in
theorem gX6_feed_X3_addFour_n91 : GoodIn wsX6_feed (wsX3_addFour) := ggX6_feed_X3_addFour
theorem dX6_feed_0 : decode cX6_feed 0 = .ok (.aload_n 0, 1) := by decide +kernel
theorem dX6_feed_1 : decode cX6_feed 1 = .ok (.getfield 10, 3) := by decide +kernel
theorem dX6_feed_4 : decode cX6_feed 4 = .ok (.bipush 20, 2) := by decide +kernel
theorem dX6_feed_6 : decode cX6_feed 6 = .ok (.invokevirtual 87, 3) := by decide +kernel
theorem dX6_feed_9 : decode cX6_feed 9 = .ok (.ifCond .ne 6, 3) := by decide +kernel
theorem dX6_feed_12 : decode cX6_feed 12 = .ok (.bipush (-3), 2) := by decide +kernel
theorem dX6_feed_14 : decode cX6_feed 14 = .ok (.ireturn, 1) := by decide +kernel
theorem dX6_feed_15 : decode cX6_feed 15 = .ok (.aload_n 0, 1) := by decide +kernel
theorem dX6_feed_16 : decode cX6_feed 16 = .ok (.getfield 10, 3) := by decide +kernel
theorem dX6_feed_19 : decode cX6_feed 19 = .ok (.iload_n 1, 1) := by decide +kernel
theorem dX6_feed_20 : decode cX6_feed 20 = .ok (.invokevirtual 91, 3) := by decide +kernel
theorem dX6_feed_23 : decode cX6_feed 23 = .ok (.aload_n 0, 1) := by decide +kernel
theorem dX6_feed_24 : decode cX6_feed 24 = .ok (.getfield 10, 3) := by decide +kernel
theorem dX6_feed_27 : decode cX6_feed 27 = .ok (.iload_n 2, 1) := by decide +kernel
theorem dX6_feed_28 : decode cX6_feed 28 = .ok (.invokevirtual 91, 3) := by decide +kernel
theorem dX6_feed_31 : decode cX6_feed 31 = .ok (.aload_n 0, 1) := by decide +kernel
theorem dX6_feed_32 : decode cX6_feed 32 = .ok (.getfield 10, 3) := by decide +kernel
theorem dX6_feed_35 : decode cX6_feed 35 = .ok (.iload_n 3, 1) := by decide +kernel
theorem dX6_feed_36 : decode cX6_feed 36 = .ok (.invokevirtual 91, 3) := by decide +kernel
theorem dX6_feed_39 : decode cX6_feed 39 = .ok (.aload_n 0, 1) := by decide +kernel
theorem dX6_feed_40 : decode cX6_feed 40 = .ok (.getfield 10, 3) := by decide +kernel
theorem dX6_feed_43 : decode cX6_feed 43 = .ok (.iload 4, 2) := by decide +kernel
theorem dX6_feed_45 : decode cX6_feed 45 = .ok (.invokevirtual 91, 3) := by decide +kernel
theorem dX6_feed_48 : decode cX6_feed 48 = .ok (.aload_n 0, 1) := by decide +kernel
theorem dX6_feed_49 : decode cX6_feed 49 = .ok (.getfield 10, 3) := by decide +kernel
theorem dX6_feed_52 : decode cX6_feed 52 = .ok (.iload 5, 2) := by decide +kernel
theorem dX6_feed_54 : decode cX6_feed 54 = .ok (.invokevirtual 91, 3) := by decide +kernel
theorem dX6_feed_57 : decode cX6_feed 57 = .ok (.aload_n 0, 1) := by decide +kernel
theorem dX6_feed_58 : decode cX6_feed 58 = .ok (.getfield 10, 3) := by decide +kernel
theorem dX6_feed_61 : decode cX6_feed 61 = .ok (.getfield 95, 3) := by decide +kernel
theorem dX6_feed_64 : decode cX6_feed 64 = .ok (.ireturn, 1) := by decide +kernel
theorem dX6_end_0 : decode cX6_end 0 = .ok (.iload_n 1, 1) := by decide +kernel
theorem dX6_end_1 : decode cX6_end 1 = .ok (.ifCond .lt 14, 3) := by decide +kernel
theorem dX6_end_4 : decode cX6_end 4 = .ok (.iload_n 1, 1) := by decide +kernel
theorem dX6_end_5 : decode cX6_end 5 = .ok (.aload_n 0, 1) := by decide +kernel
theorem dX6_end_6 : decode cX6_end 6 = .ok (.getfield 10, 3) := by decide +kernel
theorem dX6_end_9 : decode cX6_end 9 = .ok (.getfield 95, 3) := by decide +kernel
theorem dX6_end_12 : decode cX6_end 12 = .ok (.if_icmp .le 5, 3) := by decide +kernel
theorem dX6_end_15 : decode cX6_end 15 = .ok (.iconst (-1), 1) := by decide +kernel
theorem dX6_end_16 : decode cX6_end 16 = .ok (.ireturn, 1) := by decide +kernel
theorem dX6_end_17 : decode cX6_end 17 = .ok (.aload_n 0, 1) := by decide +kernel
theorem dX6_end_18 : decode cX6_end 18 = .ok (.getfield 10, 3) := by decide +kernel
theorem dX6_end_21 : decode cX6_end 21 = .ok (.iload_n 1, 1) := by decide +kernel
theorem dX6_end_22 : decode cX6_end 22 = .ok (.putfield 95, 3) := by decide +kernel
theorem dX6_end_25 : decode cX6_end 25 = .ok (.iload_n 1, 1) := by decide +kernel
theorem dX6_end_26 : decode cX6_end 26 = .ok (.ireturn, 1) := by decide +kernel
set_option maxRecDepth 20000 in
theorem ggX6_text_X1_readTape : GoodIn wsX6_text wsX1_readTape := goodIn_r _ [8, 9, 10, 11, 12, 13, 14, 15, 16, 17, 18, 19, 20, 6, 21, 22, 23, 24, 25, 26, 27, 28, 29, 30, 31, 32, 33, 34, 35, 36, 37, 38, 39, 40, 41, 42, 43, 44, 45, 46, 47, 48, 49, 50, 51, 52, 53, 54, 55, 56, 57, 58, 59, 60, 61, 62, 63, 64, 65, 66, 67, 68, 69, 70, 71, 72, 73, 74, 75, 76, 77, 78, 79, 80, 81, 82, 83, 84, 85, 86, 87, 88, 89, 90, 91, 92, 93, 94, 95, 96, 97, 98, 99, 100, 101, 102, 103, 104, 105, 106, 107, 108, 109, 110, 111, 112, 113, 114, 115, 116, 117, 118, 119, 120, 121, 122, 123, 124, 125, 126, 127, 128, 129, 130, 131, 132, 133, 134, 135, 136, 137, 138, 139, 140, 141, 142, 143, 144, 145, 146, 147, 148, 149, 150, 151, 152, 153, 154, 155, 156, 157, 158, 159, 160, 161, 162, 163, 164, 165, 166, 167, 168, 169, 170, 171, 172, 173, 174, 175, 176, 177, 178, 230, 231, 232, 233, 234, 235, 236, 237, 238, 239, 240, 241, 242, 243, 244, 245, 246, 228, 229] (by decide +kernel) (by decide +kernel)
set_option maxRecDepth 20000 in
theorem gX6_text_X1_readTape_n102 : GoodIn wsX6_text (wsX1_readTape) := ggX6_text_X1_readTape
set_option maxRecDepth 20000 in
theorem ggX6_text_X1_lastText : GoodIn wsX6_text wsX1_lastText := goodIn_r _ [181, 182, 183, 184, 128, 15, 129, 123, 150, 16, 185, 186, 187, 188, 189, 190, 191, 192, 193, 194, 195, 196, 103, 104, 105, 197, 198, 199, 200, 201, 202, 203, 204, 205, 206, 207, 208, 209, 247, 248, 249, 250, 230, 231, 232, 233, 234, 235, 236, 237, 238, 239, 240, 241, 242, 243, 244, 245, 246] (by decide +kernel) (by decide +kernel)
set_option maxRecDepth 20000 in
theorem gX6_text_X1_lastText_n109 : GoodIn wsX6_text (wsX1_lastText) := ggX6_text_X1_lastText
theorem dX6_text_0 : decode cX6_text 0 = .ok (.aload_n 0, 1) := by decide +kernel
theorem dX6_text_1 : decode cX6_text 1 = .ok (.getfield 99, 3) := by decide +kernel
theorem dX6_text_4 : decode cX6_text 4 = .ok (.bipush 10, 2) := by decide +kernel
theorem dX6_text_6 : decode cX6_text 6 = .ok (.if_icmp .lt 6, 3) := by decide +kernel
theorem dX6_text_9 : decode cX6_text 9 = .ok (.bipush (-3), 2) := by decide +kernel
theorem dX6_text_11 : decode cX6_text 11 = .ok (.ireturn, 1) := by decide +kernel
theorem dX6_text_12 : decode cX6_text 12 = .ok (.aload_n 0, 1) := by decide +kernel
theorem dX6_text_13 : decode cX6_text 13 = .ok (.getfield 21, 3) := by decide +kernel
theorem dX6_text_16 : decode cX6_text 16 = .ok (.invokevirtual 102, 3) := by decide +kernel
theorem dX6_text_19 : decode cX6_text 19 = .ok (.istore_n 1, 1) := by decide +kernel
theorem dX6_text_20 : decode cX6_text 20 = .ok (.aload_n 0, 1) := by decide +kernel
theorem dX6_text_21 : decode cX6_text 21 = .ok (.getfield 10, 3) := by decide +kernel
theorem dX6_text_24 : decode cX6_text 24 = .ok (.iconst 0, 1) := by decide +kernel
theorem dX6_text_25 : decode cX6_text 25 = .ok (.putfield 95, 3) := by decide +kernel
theorem dX6_text_28 : decode cX6_text 28 = .ok (.iload_n 1, 1) := by decide +kernel
theorem dX6_text_29 : decode cX6_text 29 = .ok (.ifCond .ne 14, 3) := by decide +kernel
theorem dX6_text_32 : decode cX6_text 32 = .ok (.bipush (-100), 2) := by decide +kernel
theorem dX6_text_34 : decode cX6_text 34 = .ok (.aload_n 0, 1) := by decide +kernel
theorem dX6_text_35 : decode cX6_text 35 = .ok (.getfield 21, 3) := by decide +kernel
theorem dX6_text_38 : decode cX6_text 38 = .ok (.getfield 106, 3) := by decide +kernel
theorem dX6_text_41 : decode cX6_text 41 = .ok (.isub, 1) := by decide +kernel
theorem dX6_text_42 : decode cX6_text 42 = .ok (.ireturn, 1) := by decide +kernel
theorem dX6_text_43 : decode cX6_text 43 = .ok (.aload_n 0, 1) := by decide +kernel
theorem dX6_text_44 : decode cX6_text 44 = .ok (.getfield 34, 3) := by decide +kernel
theorem dX6_text_47 : decode cX6_text 47 = .ok (.aload_n 0, 1) := by decide +kernel
theorem dX6_text_48 : decode cX6_text 48 = .ok (.getfield 99, 3) := by decide +kernel
theorem dX6_text_51 : decode cX6_text 51 = .ok (.aload_n 0, 1) := by decide +kernel
theorem dX6_text_52 : decode cX6_text 52 = .ok (.getfield 21, 3) := by decide +kernel
theorem dX6_text_55 : decode cX6_text 55 = .ok (.invokevirtual 109, 3) := by decide +kernel
theorem dX6_text_58 : decode cX6_text 58 = .ok (.aastore, 1) := by decide +kernel
theorem dX6_text_59 : decode cX6_text 59 = .ok (.aload_n 0, 1) := by decide +kernel
theorem dX6_text_60 : decode cX6_text 60 = .ok (.dup, 1) := by decide +kernel
theorem dX6_text_61 : decode cX6_text 61 = .ok (.getfield 99, 3) := by decide +kernel
theorem dX6_text_64 : decode cX6_text 64 = .ok (.dup_x1, 1) := by decide +kernel
theorem dX6_text_65 : decode cX6_text 65 = .ok (.iconst 1, 1) := by decide +kernel
theorem dX6_text_66 : decode cX6_text 66 = .ok (.iadd, 1) := by decide +kernel
theorem dX6_text_67 : decode cX6_text 67 = .ok (.putfield 99, 3) := by decide +kernel
theorem dX6_text_70 : decode cX6_text 70 = .ok (.ireturn, 1) := by decide +kernel
set_option maxRecDepth 20000 in
theorem ggX6_statements_X6_textOf : GoodIn wsX6_statements wsX6_textOf := goodIn_r _ [5, 6, 7, 12, 13, 14, 15, 16, 17, 18, 19, 20, 21, 22, 23, 24, 25, 26, 27, 28, 29] (by decide +kernel) (by decide +kernel)
set_option maxRecDepth 20000 in
theorem gX6_statements_X6_textOf : GoodIn wsX6_statements (wsV RX6 113 RX6 yX6_textOf wsX6_textOf) := goodIn_app (goodIn_of _ (by decide +kernel)) ggX6_statements_X6_textOf
theorem dX6_statements_0 : decode cX6_statements 0 = .ok (.aload_n 0, 1) := by decide +kernel
theorem dX6_statements_1 : decode cX6_statements 1 = .ok (.iload_n 1, 1) := by decide +kernel
theorem dX6_statements_2 : decode cX6_statements 2 = .ok (.invokevirtual 113, 3) := by decide +kernel
theorem dX6_statements_5 : decode cX6_statements 5 = .ok (.astore_n 2, 1) := by decide +kernel
theorem dX6_statements_6 : decode cX6_statements 6 = .ok (.aload_n 2, 1) := by decide +kernel
theorem dX6_statements_7 : decode cX6_statements 7 = .ok (.ifnonnull 7, 3) := by decide +kernel
theorem dX6_statements_10 : decode cX6_statements 10 = .ok (.iconst (-1), 1) := by decide +kernel
theorem dX6_statements_11 : decode cX6_statements 11 = .ok (.goto 8, 3) := by decide +kernel
theorem dX6_statements_14 : decode cX6_statements 14 = .ok (.aload_n 2, 1) := by decide +kernel
theorem dX6_statements_15 : decode cX6_statements 15 = .ok (.getfield 117, 3) := by decide +kernel
theorem dX6_statements_18 : decode cX6_statements 18 = .ok (.arraylength, 1) := by decide +kernel
theorem dX6_statements_19 : decode cX6_statements 19 = .ok (.ireturn, 1) := by decide +kernel
set_option maxRecDepth 20000 in
theorem ggX6_force_X6_textOf : GoodIn wsX6_force wsX6_textOf := goodIn_r _ [7, 8, 9, 48, 49, 50, 51, 52, 53, 54, 55, 56, 57, 58, 59, 60, 61, 62, 63, 64, 65] (by decide +kernel) (by decide +kernel)
set_option maxRecDepth 20000 in
theorem gX6_force_X6_textOf : GoodIn wsX6_force (wsV RX6 113 RX6 yX6_textOf wsX6_textOf) := goodIn_app (goodIn_of _ (by decide +kernel)) ggX6_force_X6_textOf
set_option maxRecDepth 20000 in
theorem ggX6_force_X2_add : GoodIn wsX6_force wsX2_add := goodIn_r _ [13, 14, 15, 16, 17, 18, 19, 11, 20, 21, 22, 23, 24, 25, 26, 27, 28, 29, 30, 31, 32, 33, 34, 35, 36, 37, 38, 39, 40, 66, 67, 68, 69] (by decide +kernel) (by decide +kernel)
set_option maxRecDepth 20000 in
theorem gX6_force_X2_add_n123 : GoodIn wsX6_force (wsX2_add) := ggX6_force_X2_add
set_option maxRecDepth 20000 in
theorem ggX6_force_X2_set : GoodIn wsX6_force wsX2_set := goodIn_r _ [43, 16, 15, 44, 45, 46, 11, 47, 14, 66, 67, 68, 69] (by decide +kernel) (by decide +kernel)
set_option maxRecDepth 20000 in
theorem gX6_force_X2_set_n127 : GoodIn wsX6_force (wsX2_set) := ggX6_force_X2_set
theorem dX6_force_0 : decode cX6_force 0 = .ok (.aload_n 0, 1) := by decide +kernel
theorem dX6_force_1 : decode cX6_force 1 = .ok (.iload_n 1, 1) := by decide +kernel
theorem dX6_force_2 : decode cX6_force 2 = .ok (.invokevirtual 113, 3) := by decide +kernel
theorem dX6_force_5 : decode cX6_force 5 = .ok (.ifnull 18, 3) := by decide +kernel
theorem dX6_force_8 : decode cX6_force 8 = .ok (.iload_n 2, 1) := by decide +kernel
theorem dX6_force_9 : decode cX6_force 9 = .ok (.aload_n 0, 1) := by decide +kernel
theorem dX6_force_10 : decode cX6_force 10 = .ok (.getfield 120, 3) := by decide +kernel
theorem dX6_force_13 : decode cX6_force 13 = .ok (.if_icmp .lt 10, 3) := by decide +kernel
theorem dX6_force_16 : decode cX6_force 16 = .ok (.iload_n 2, 1) := by decide +kernel
theorem dX6_force_17 : decode cX6_force 17 = .ok (.sipush 1000, 3) := by decide +kernel
theorem dX6_force_20 : decode cX6_force 20 = .ok (.if_icmp .le 5, 3) := by decide +kernel
theorem dX6_force_23 : decode cX6_force 23 = .ok (.iconst (-1), 1) := by decide +kernel
theorem dX6_force_24 : decode cX6_force 24 = .ok (.ireturn, 1) := by decide +kernel
theorem dX6_force_25 : decode cX6_force 25 = .ok (.aload_n 0, 1) := by decide +kernel
theorem dX6_force_26 : decode cX6_force 26 = .ok (.getfield 43, 3) := by decide +kernel
theorem dX6_force_29 : decode cX6_force 29 = .ok (.invokevirtual 123, 3) := by decide +kernel
theorem dX6_force_32 : decode cX6_force 32 = .ok (.istore_n 3, 1) := by decide +kernel
theorem dX6_force_33 : decode cX6_force 33 = .ok (.iload_n 3, 1) := by decide +kernel
theorem dX6_force_34 : decode cX6_force 34 = .ok (.ifCond .ge 6, 3) := by decide +kernel
theorem dX6_force_37 : decode cX6_force 37 = .ok (.bipush (-3), 2) := by decide +kernel
theorem dX6_force_39 : decode cX6_force 39 = .ok (.ireturn, 1) := by decide +kernel
theorem dX6_force_40 : decode cX6_force 40 = .ok (.aload_n 0, 1) := by decide +kernel
theorem dX6_force_41 : decode cX6_force 41 = .ok (.getfield 43, 3) := by decide +kernel
theorem dX6_force_44 : decode cX6_force 44 = .ok (.iload_n 3, 1) := by decide +kernel
theorem dX6_force_45 : decode cX6_force 45 = .ok (.iconst 0, 1) := by decide +kernel
theorem dX6_force_46 : decode cX6_force 46 = .ok (.iload_n 1, 1) := by decide +kernel
theorem dX6_force_47 : decode cX6_force 47 = .ok (.invokevirtual 127, 3) := by decide +kernel
theorem dX6_force_50 : decode cX6_force 50 = .ok (.aload_n 0, 1) := by decide +kernel
theorem dX6_force_51 : decode cX6_force 51 = .ok (.getfield 43, 3) := by decide +kernel
theorem dX6_force_54 : decode cX6_force 54 = .ok (.iload_n 3, 1) := by decide +kernel
theorem dX6_force_55 : decode cX6_force 55 = .ok (.iconst 1, 1) := by decide +kernel
theorem dX6_force_56 : decode cX6_force 56 = .ok (.iload_n 2, 1) := by decide +kernel
theorem dX6_force_57 : decode cX6_force 57 = .ok (.invokevirtual 127, 3) := by decide +kernel
theorem dX6_force_60 : decode cX6_force 60 = .ok (.iconst 1, 1) := by decide +kernel
theorem dX6_force_61 : decode cX6_force 61 = .ok (.ireturn, 1) := by decide +kernel
set_option maxRecDepth 20000 in
theorem ggX6_inForce_X6_textInForce : GoodIn wsX6_inForce wsX6_textInForce := goodIn_r _ [5, 6, 7, 8, 9, 10, 11, 12, 13, 14, 15, 16, 17, 18, 19, 20, 21, 22, 23, 24, 25, 26, 27, 28, 29, 30, 31, 32, 33, 34, 35, 36, 37, 38, 39] (by decide +kernel) (by decide +kernel)
set_option maxRecDepth 20000 in
theorem gX6_inForce_X6_textInForce : GoodIn wsX6_inForce (wsV RX6 131 RX6 yX6_textInForce wsX6_textInForce) := goodIn_app (goodIn_of _ (by decide +kernel)) ggX6_inForce_X6_textInForce
theorem dX6_inForce_0 : decode cX6_inForce 0 = .ok (.iload_n 1, 1) := by decide +kernel
theorem dX6_inForce_1 : decode cX6_inForce 1 = .ok (.ifCond .lt 10, 3) := by decide +kernel
theorem dX6_inForce_4 : decode cX6_inForce 4 = .ok (.iload_n 1, 1) := by decide +kernel
theorem dX6_inForce_5 : decode cX6_inForce 5 = .ok (.sipush 1000, 3) := by decide +kernel
theorem dX6_inForce_8 : decode cX6_inForce 8 = .ok (.if_icmp .le 7, 3) := by decide +kernel
theorem dX6_inForce_11 : decode cX6_inForce 11 = .ok (.iconst (-1), 1) := by decide +kernel
theorem dX6_inForce_12 : decode cX6_inForce 12 = .ok (.goto 8, 3) := by decide +kernel
theorem dX6_inForce_15 : decode cX6_inForce 15 = .ok (.aload_n 0, 1) := by decide +kernel
theorem dX6_inForce_16 : decode cX6_inForce 16 = .ok (.iload_n 1, 1) := by decide +kernel
theorem dX6_inForce_17 : decode cX6_inForce 17 = .ok (.invokevirtual 131, 3) := by decide +kernel
theorem dX6_inForce_20 : decode cX6_inForce 20 = .ok (.ireturn, 1) := by decide +kernel
set_option maxRecDepth 20000 in
theorem ggX6_would_X6_textOf : GoodIn wsX6_would wsX6_textOf := goodIn_r _ [8, 9, 10, 85, 86, 87, 88, 89, 90, 91, 92, 93, 94, 95, 96, 97, 98, 99, 100, 101, 102] (by decide +kernel) (by decide +kernel)
set_option maxRecDepth 20000 in
theorem gX6_would_X6_textOf : GoodIn wsX6_would (wsV RX6 113 RX6 yX6_textOf wsX6_textOf) := goodIn_app (goodIn_of _ (by decide +kernel)) ggX6_would_X6_textOf
set_option maxRecDepth 20000 in
theorem ggX6_would_X6_isOwed : GoodIn wsX6_would wsX6_isOwed := goodIn_r _ [14, 2, 15, 16, 17, 18, 19, 20, 21, 22, 23, 24, 25, 85, 86, 87, 88, 89, 90, 91, 92, 93, 94, 95, 96, 97, 98, 99, 100, 101, 102, 103, 104, 105, 106] (by decide +kernel) (by decide +kernel)
set_option maxRecDepth 20000 in
theorem gX6_would_X6_isOwed : GoodIn wsX6_would (wsV RX6 135 RX6 yX6_isOwed wsX6_isOwed) := goodIn_app (goodIn_of _ (by decide +kernel)) ggX6_would_X6_isOwed
set_option maxRecDepth 20000 in
theorem ggX6_would_X2_get : GoodIn wsX6_would wsX2_get := goodIn_r _ [23, 24, 20, 25, 15, 17, 16, 18, 19, 103, 104, 105, 106] (by decide +kernel) (by decide +kernel)
set_option maxRecDepth 20000 in
theorem gX6_would_X2_get_n139 : GoodIn wsX6_would (wsX2_get) := ggX6_would_X2_get
set_option maxRecDepth 20000 in
theorem ggX6_would_X6_leftOf : GoodIn wsX6_would wsX6_leftOf := goodIn_r _ [29, 2, 30, 31, 32, 7, 33, 11, 12, 13, 14, 15, 16, 17, 18, 19, 20, 21, 22, 23, 24, 25, 85, 86, 87, 88, 89, 90, 91, 92, 93, 94, 95, 96, 97, 98, 99, 100, 101, 102, 103, 104, 105, 106] (by decide +kernel) (by decide +kernel)
set_option maxRecDepth 20000 in
theorem gX6_would_X6_leftOf : GoodIn wsX6_would (wsV RX6 143 RX6 yX6_leftOf wsX6_leftOf) := goodIn_app (goodIn_of _ (by decide +kernel)) ggX6_would_X6_leftOf
set_option maxRecDepth 20000 in
theorem ggX6_would_X6_tellWeigher : GoodIn wsX6_would wsX6_tellWeigher := goodIn_r _ [37, 3, 2, 38, 21, 16, 22, 23, 24, 20, 25, 15, 17, 18, 19, 39, 40, 41, 42, 43, 44, 45, 46, 7, 47, 48, 49, 50, 51, 85, 86, 87, 88, 89, 90, 91, 92, 93, 94, 95, 96, 97, 98, 99, 100, 101, 102, 103, 104, 105, 106, 107, 108, 109] (by decide +kernel) (by decide +kernel)
set_option maxRecDepth 20000 in
theorem gX6_would_X6_tellWeigher : GoodIn wsX6_would (wsV RX6 147 RX6 yX6_tellWeigher wsX6_tellWeigher) := goodIn_app (goodIn_of _ (by decide +kernel)) ggX6_would_X6_tellWeigher
set_option maxRecDepth 20000 in
theorem ggX6_would_X5_firstHeld : GoodIn wsX6_would wsX5_firstHeld := goodIn_r _ [54, 55, 56, 57, 40, 58, 59, 60, 61, 62, 63, 64, 65, 66, 67, 68, 69, 70, 71, 72, 43, 73, 74, 75, 76, 77, 78, 79, 80, 81, 82, 83, 84, 110, 111, 112, 113, 107, 108, 109] (by decide +kernel) (by decide +kernel)
set_option maxRecDepth 20000 in
theorem gX6_would_X5_firstHeld_n151 : GoodIn wsX6_would (wsX5_firstHeld) := ggX6_would_X5_firstHeld
theorem dX6_would_0 : decode cX6_would 0 = .ok (.aload_n 0, 1) := by decide +kernel
theorem dX6_would_1 : decode cX6_would 1 = .ok (.iload_n 1, 1) := by decide +kernel
theorem dX6_would_2 : decode cX6_would 2 = .ok (.invokevirtual 113, 3) := by decide +kernel
theorem dX6_would_5 : decode cX6_would 5 = .ok (.astore 4, 2) := by decide +kernel
theorem dX6_would_7 : decode cX6_would 7 = .ok (.aload 4, 2) := by decide +kernel
theorem dX6_would_9 : decode cX6_would 9 = .ok (.ifnull 21, 3) := by decide +kernel
theorem dX6_would_12 : decode cX6_would 12 = .ok (.aload_n 0, 1) := by decide +kernel
theorem dX6_would_13 : decode cX6_would 13 = .ok (.iload_n 2, 1) := by decide +kernel
theorem dX6_would_14 : decode cX6_would 14 = .ok (.invokevirtual 135, 3) := by decide +kernel
theorem dX6_would_17 : decode cX6_would 17 = .ok (.ifCond .eq 13, 3) := by decide +kernel
theorem dX6_would_20 : decode cX6_would 20 = .ok (.iload_n 3, 1) := by decide +kernel
theorem dX6_would_21 : decode cX6_would 21 = .ok (.ifCond .lt 9, 3) := by decide +kernel
theorem dX6_would_24 : decode cX6_would 24 = .ok (.iload_n 3, 1) := by decide +kernel
theorem dX6_would_25 : decode cX6_would 25 = .ok (.ldc 138, 2) := by decide +kernel
theorem dX6_would_27 : decode cX6_would 27 = .ok (.if_icmp .le 5, 3) := by decide +kernel
theorem dX6_would_30 : decode cX6_would 30 = .ok (.iconst (-1), 1) := by decide +kernel
theorem dX6_would_31 : decode cX6_would 31 = .ok (.ireturn, 1) := by decide +kernel
theorem dX6_would_32 : decode cX6_would 32 = .ok (.aload_n 0, 1) := by decide +kernel
theorem dX6_would_33 : decode cX6_would 33 = .ok (.iload_n 2, 1) := by decide +kernel
theorem dX6_would_34 : decode cX6_would 34 = .ok (.aload_n 0, 1) := by decide +kernel
theorem dX6_would_35 : decode cX6_would 35 = .ok (.aload_n 0, 1) := by decide +kernel
theorem dX6_would_36 : decode cX6_would 36 = .ok (.getfield 65, 3) := by decide +kernel
theorem dX6_would_39 : decode cX6_would 39 = .ok (.iload_n 2, 1) := by decide +kernel
theorem dX6_would_40 : decode cX6_would 40 = .ok (.iconst 0, 1) := by decide +kernel
theorem dX6_would_41 : decode cX6_would 41 = .ok (.invokevirtual 139, 3) := by decide +kernel
theorem dX6_would_44 : decode cX6_would 44 = .ok (.invokevirtual 143, 3) := by decide +kernel
theorem dX6_would_47 : decode cX6_would 47 = .ok (.iload_n 3, 1) := by decide +kernel
theorem dX6_would_48 : decode cX6_would 48 = .ok (.i2l, 1) := by decide +kernel
theorem dX6_would_49 : decode cX6_would 49 = .ok (.lconst 0, 1) := by decide +kernel
theorem dX6_would_50 : decode cX6_would 50 = .ok (.invokevirtual 147, 3) := by decide +kernel
theorem dX6_would_53 : decode cX6_would 53 = .ok (.aload_n 0, 1) := by decide +kernel
theorem dX6_would_54 : decode cX6_would 54 = .ok (.getfield 28, 3) := by decide +kernel
theorem dX6_would_57 : decode cX6_would 57 = .ok (.aload 4, 2) := by decide +kernel
theorem dX6_would_59 : decode cX6_would 59 = .ok (.invokevirtual 151, 3) := by decide +kernel
theorem dX6_would_62 : decode cX6_would 62 = .ok (.istore 5, 2) := by decide +kernel
theorem dX6_would_64 : decode cX6_would 64 = .ok (.iload 5, 2) := by decide +kernel
theorem dX6_would_66 : decode cX6_would 66 = .ok (.ifCond .ge 8, 3) := by decide +kernel
theorem dX6_would_69 : decode cX6_would 69 = .ok (.bipush (-2), 2) := by decide +kernel
theorem dX6_would_71 : decode cX6_would 71 = .ok (.goto 5, 3) := by decide +kernel
theorem dX6_would_74 : decode cX6_would 74 = .ok (.iload 5, 2) := by decide +kernel
theorem dX6_would_76 : decode cX6_would 76 = .ok (.ireturn, 1) := by decide +kernel
theorem dX6_textOf_0 : decode cX6_textOf 0 = .ok (.iload_n 1, 1) := by decide +kernel
theorem dX6_textOf_1 : decode cX6_textOf 1 = .ok (.ifCond .lt 20, 3) := by decide +kernel
theorem dX6_textOf_4 : decode cX6_textOf 4 = .ok (.iload_n 1, 1) := by decide +kernel
theorem dX6_textOf_5 : decode cX6_textOf 5 = .ok (.aload_n 0, 1) := by decide +kernel
theorem dX6_textOf_6 : decode cX6_textOf 6 = .ok (.getfield 99, 3) := by decide +kernel
theorem dX6_textOf_9 : decode cX6_textOf 9 = .ok (.if_icmp .ge 12, 3) := by decide +kernel
theorem dX6_textOf_12 : decode cX6_textOf 12 = .ok (.iload_n 1, 1) := by decide +kernel
theorem dX6_textOf_13 : decode cX6_textOf 13 = .ok (.aload_n 0, 1) := by decide +kernel
theorem dX6_textOf_14 : decode cX6_textOf 14 = .ok (.getfield 34, 3) := by decide +kernel
theorem dX6_textOf_17 : decode cX6_textOf 17 = .ok (.arraylength, 1) := by decide +kernel
theorem dX6_textOf_18 : decode cX6_textOf 18 = .ok (.if_icmp .lt 7, 3) := by decide +kernel
theorem dX6_textOf_21 : decode cX6_textOf 21 = .ok (.aconst_null, 1) := by decide +kernel
theorem dX6_textOf_22 : decode cX6_textOf 22 = .ok (.goto 9, 3) := by decide +kernel
theorem dX6_textOf_25 : decode cX6_textOf 25 = .ok (.aload_n 0, 1) := by decide +kernel
theorem dX6_textOf_26 : decode cX6_textOf 26 = .ok (.getfield 34, 3) := by decide +kernel
theorem dX6_textOf_29 : decode cX6_textOf 29 = .ok (.iload_n 1, 1) := by decide +kernel
theorem dX6_textOf_30 : decode cX6_textOf 30 = .ok (.aaload, 1) := by decide +kernel
theorem dX6_textOf_31 : decode cX6_textOf 31 = .ok (.areturn, 1) := by decide +kernel
set_option maxRecDepth 20000 in
theorem ggX6_textInForce_X2_get : GoodIn wsX6_textInForce wsX2_get := goodIn_r _ [5, 6, 7, 8, 9, 10, 3, 11, 12, 31, 32, 33, 34] (by decide +kernel) (by decide +kernel)
set_option maxRecDepth 20000 in
theorem gX6_textInForce_X2_get_n139 : GoodIn wsX6_textInForce (wsX2_get) := ggX6_textInForce_X2_get
theorem dX6_textInForce_0 : decode cX6_textInForce 0 = .ok (.aload_n 0, 1) := by decide +kernel
theorem dX6_textInForce_1 : decode cX6_textInForce 1 = .ok (.getfield 43, 3) := by decide +kernel
theorem dX6_textInForce_4 : decode cX6_textInForce 4 = .ok (.getfield 155, 3) := by decide +kernel
theorem dX6_textInForce_7 : decode cX6_textInForce 7 = .ok (.iconst 1, 1) := by decide +kernel
theorem dX6_textInForce_8 : decode cX6_textInForce 8 = .ok (.isub, 1) := by decide +kernel
theorem dX6_textInForce_9 : decode cX6_textInForce 9 = .ok (.istore_n 2, 1) := by decide +kernel
theorem dX6_textInForce_10 : decode cX6_textInForce 10 = .ok (.iload_n 2, 1) := by decide +kernel
theorem dX6_textInForce_11 : decode cX6_textInForce 11 = .ok (.ifCond .lt 32, 3) := by decide +kernel
theorem dX6_textInForce_14 : decode cX6_textInForce 14 = .ok (.aload_n 0, 1) := by decide +kernel
theorem dX6_textInForce_15 : decode cX6_textInForce 15 = .ok (.getfield 43, 3) := by decide +kernel
theorem dX6_textInForce_18 : decode cX6_textInForce 18 = .ok (.iload_n 2, 1) := by decide +kernel
theorem dX6_textInForce_19 : decode cX6_textInForce 19 = .ok (.iconst 1, 1) := by decide +kernel
theorem dX6_textInForce_20 : decode cX6_textInForce 20 = .ok (.invokevirtual 139, 3) := by decide +kernel
theorem dX6_textInForce_23 : decode cX6_textInForce 23 = .ok (.iload_n 1, 1) := by decide +kernel
theorem dX6_textInForce_24 : decode cX6_textInForce 24 = .ok (.if_icmp .gt 13, 3) := by decide +kernel
theorem dX6_textInForce_27 : decode cX6_textInForce 27 = .ok (.aload_n 0, 1) := by decide +kernel
theorem dX6_textInForce_28 : decode cX6_textInForce 28 = .ok (.getfield 43, 3) := by decide +kernel
theorem dX6_textInForce_31 : decode cX6_textInForce 31 = .ok (.iload_n 2, 1) := by decide +kernel
theorem dX6_textInForce_32 : decode cX6_textInForce 32 = .ok (.iconst 0, 1) := by decide +kernel
theorem dX6_textInForce_33 : decode cX6_textInForce 33 = .ok (.invokevirtual 139, 3) := by decide +kernel
theorem dX6_textInForce_36 : decode cX6_textInForce 36 = .ok (.ireturn, 1) := by decide +kernel
theorem dX6_textInForce_37 : decode cX6_textInForce 37 = .ok (.iinc 2 (-1), 3) := by decide +kernel
theorem dX6_textInForce_40 : decode cX6_textInForce 40 = .ok (.goto (-30), 3) := by decide +kernel
theorem dX6_textInForce_43 : decode cX6_textInForce 43 = .ok (.iconst (-1), 1) := by decide +kernel
theorem dX6_textInForce_44 : decode cX6_textInForce 44 = .ok (.ireturn, 1) := by decide +kernel
set_option maxRecDepth 20000 in
theorem ggX6_tellWeigher_X2_get : GoodIn wsX6_tellWeigher wsX2_get := goodIn_r _ [7, 8, 9, 10, 11, 12, 5, 13, 14, 47, 48, 49, 50] (by decide +kernel) (by decide +kernel)
set_option maxRecDepth 20000 in
theorem gX6_tellWeigher_X2_get_n139 : GoodIn wsX6_tellWeigher (wsX2_get) := ggX6_tellWeigher_X2_get
set_option maxRecDepth 20000 in
theorem ggX6_tellWeigher_X5_tell : GoodIn wsX6_tellWeigher wsX5_tell := goodIn_r _ [18, 19, 51, 52, 53] (by decide +kernel) (by decide +kernel)
set_option maxRecDepth 20000 in
theorem gX6_tellWeigher_X5_tell_n158 : GoodIn wsX6_tellWeigher (wsX5_tell) := ggX6_tellWeigher_X5_tell
set_option maxRecDepth 20000 in
theorem ggX6_tellWeigher_X6_isHeld : GoodIn wsX6_tellWeigher wsX6_isHeld := goodIn_r _ [24, 25, 26, 27, 23, 28, 29, 30, 31, 32, 33, 34, 35, 36, 37, 38, 39, 40, 41, 42, 43, 44, 45, 46] (by decide +kernel) (by decide +kernel)
set_option maxRecDepth 20000 in
theorem gX6_tellWeigher_X6_isHeld : GoodIn wsX6_tellWeigher (wsV RX6 162 RX6 yX6_isHeld wsX6_isHeld) := goodIn_app (goodIn_of _ (by decide +kernel)) ggX6_tellWeigher_X6_isHeld
theorem dX6_tellWeigher_0 : decode cX6_tellWeigher 0 = .ok (.aload_n 0, 1) := by decide +kernel
theorem dX6_tellWeigher_1 : decode cX6_tellWeigher 1 = .ok (.getfield 28, 3) := by decide +kernel
theorem dX6_tellWeigher_4 : decode cX6_tellWeigher 4 = .ok (.bipush 11, 2) := by decide +kernel
theorem dX6_tellWeigher_6 : decode cX6_tellWeigher 6 = .ok (.aload_n 0, 1) := by decide +kernel
theorem dX6_tellWeigher_7 : decode cX6_tellWeigher 7 = .ok (.getfield 65, 3) := by decide +kernel
theorem dX6_tellWeigher_10 : decode cX6_tellWeigher 10 = .ok (.iload_n 1, 1) := by decide +kernel
theorem dX6_tellWeigher_11 : decode cX6_tellWeigher 11 = .ok (.iconst 3, 1) := by decide +kernel
theorem dX6_tellWeigher_12 : decode cX6_tellWeigher 12 = .ok (.invokevirtual 139, 3) := by decide +kernel
theorem dX6_tellWeigher_15 : decode cX6_tellWeigher 15 = .ok (.i2l, 1) := by decide +kernel
theorem dX6_tellWeigher_16 : decode cX6_tellWeigher 16 = .ok (.invokevirtual 158, 3) := by decide +kernel
theorem dX6_tellWeigher_19 : decode cX6_tellWeigher 19 = .ok (.aload_n 0, 1) := by decide +kernel
theorem dX6_tellWeigher_20 : decode cX6_tellWeigher 20 = .ok (.getfield 28, 3) := by decide +kernel
theorem dX6_tellWeigher_23 : decode cX6_tellWeigher 23 = .ok (.bipush 12, 2) := by decide +kernel
theorem dX6_tellWeigher_25 : decode cX6_tellWeigher 25 = .ok (.lload_n 2, 1) := by decide +kernel
theorem dX6_tellWeigher_26 : decode cX6_tellWeigher 26 = .ok (.invokevirtual 158, 3) := by decide +kernel
theorem dX6_tellWeigher_29 : decode cX6_tellWeigher 29 = .ok (.aload_n 0, 1) := by decide +kernel
theorem dX6_tellWeigher_30 : decode cX6_tellWeigher 30 = .ok (.getfield 28, 3) := by decide +kernel
theorem dX6_tellWeigher_33 : decode cX6_tellWeigher 33 = .ok (.bipush 13, 2) := by decide +kernel
theorem dX6_tellWeigher_35 : decode cX6_tellWeigher 35 = .ok (.aload_n 0, 1) := by decide +kernel
theorem dX6_tellWeigher_36 : decode cX6_tellWeigher 36 = .ok (.getfield 120, 3) := by decide +kernel
theorem dX6_tellWeigher_39 : decode cX6_tellWeigher 39 = .ok (.aload_n 0, 1) := by decide +kernel
theorem dX6_tellWeigher_40 : decode cX6_tellWeigher 40 = .ok (.getfield 65, 3) := by decide +kernel
theorem dX6_tellWeigher_43 : decode cX6_tellWeigher 43 = .ok (.iload_n 1, 1) := by decide +kernel
theorem dX6_tellWeigher_44 : decode cX6_tellWeigher 44 = .ok (.iconst 4, 1) := by decide +kernel
theorem dX6_tellWeigher_45 : decode cX6_tellWeigher 45 = .ok (.invokevirtual 139, 3) := by decide +kernel
theorem dX6_tellWeigher_48 : decode cX6_tellWeigher 48 = .ok (.isub, 1) := by decide +kernel
theorem dX6_tellWeigher_49 : decode cX6_tellWeigher 49 = .ok (.i2l, 1) := by decide +kernel
theorem dX6_tellWeigher_50 : decode cX6_tellWeigher 50 = .ok (.invokevirtual 158, 3) := by decide +kernel
theorem dX6_tellWeigher_53 : decode cX6_tellWeigher 53 = .ok (.aload_n 0, 1) := by decide +kernel
theorem dX6_tellWeigher_54 : decode cX6_tellWeigher 54 = .ok (.getfield 28, 3) := by decide +kernel
theorem dX6_tellWeigher_57 : decode cX6_tellWeigher 57 = .ok (.bipush 14, 2) := by decide +kernel
theorem dX6_tellWeigher_59 : decode cX6_tellWeigher 59 = .ok (.aload_n 0, 1) := by decide +kernel
theorem dX6_tellWeigher_60 : decode cX6_tellWeigher 60 = .ok (.getfield 65, 3) := by decide +kernel
theorem dX6_tellWeigher_63 : decode cX6_tellWeigher 63 = .ok (.iload_n 1, 1) := by decide +kernel
theorem dX6_tellWeigher_64 : decode cX6_tellWeigher 64 = .ok (.iconst 1, 1) := by decide +kernel
theorem dX6_tellWeigher_65 : decode cX6_tellWeigher 65 = .ok (.invokevirtual 139, 3) := by decide +kernel
theorem dX6_tellWeigher_68 : decode cX6_tellWeigher 68 = .ok (.i2l, 1) := by decide +kernel
theorem dX6_tellWeigher_69 : decode cX6_tellWeigher 69 = .ok (.invokevirtual 158, 3) := by decide +kernel
theorem dX6_tellWeigher_72 : decode cX6_tellWeigher 72 = .ok (.aload_n 0, 1) := by decide +kernel
theorem dX6_tellWeigher_73 : decode cX6_tellWeigher 73 = .ok (.getfield 28, 3) := by decide +kernel
theorem dX6_tellWeigher_76 : decode cX6_tellWeigher 76 = .ok (.bipush 15, 2) := by decide +kernel
theorem dX6_tellWeigher_78 : decode cX6_tellWeigher 78 = .ok (.lload 4, 2) := by decide +kernel
theorem dX6_tellWeigher_80 : decode cX6_tellWeigher 80 = .ok (.invokevirtual 158, 3) := by decide +kernel
theorem dX6_tellWeigher_83 : decode cX6_tellWeigher 83 = .ok (.aload_n 0, 1) := by decide +kernel
theorem dX6_tellWeigher_84 : decode cX6_tellWeigher 84 = .ok (.getfield 28, 3) := by decide +kernel
theorem dX6_tellWeigher_87 : decode cX6_tellWeigher 87 = .ok (.bipush 16, 2) := by decide +kernel
theorem dX6_tellWeigher_89 : decode cX6_tellWeigher 89 = .ok (.aload_n 0, 1) := by decide +kernel
theorem dX6_tellWeigher_90 : decode cX6_tellWeigher 90 = .ok (.getfield 120, 3) := by decide +kernel
theorem dX6_tellWeigher_93 : decode cX6_tellWeigher 93 = .ok (.i2l, 1) := by decide +kernel
theorem dX6_tellWeigher_94 : decode cX6_tellWeigher 94 = .ok (.invokevirtual 158, 3) := by decide +kernel
theorem dX6_tellWeigher_97 : decode cX6_tellWeigher 97 = .ok (.aload_n 0, 1) := by decide +kernel
theorem dX6_tellWeigher_98 : decode cX6_tellWeigher 98 = .ok (.getfield 28, 3) := by decide +kernel
theorem dX6_tellWeigher_101 : decode cX6_tellWeigher 101 = .ok (.bipush 17, 2) := by decide +kernel
theorem dX6_tellWeigher_103 : decode cX6_tellWeigher 103 = .ok (.aload_n 0, 1) := by decide +kernel
theorem dX6_tellWeigher_104 : decode cX6_tellWeigher 104 = .ok (.getfield 120, 3) := by decide +kernel
theorem dX6_tellWeigher_107 : decode cX6_tellWeigher 107 = .ok (.iconst 2, 1) := by decide +kernel
theorem dX6_tellWeigher_108 : decode cX6_tellWeigher 108 = .ok (.idiv, 1) := by decide +kernel
theorem dX6_tellWeigher_109 : decode cX6_tellWeigher 109 = .ok (.i2l, 1) := by decide +kernel
theorem dX6_tellWeigher_110 : decode cX6_tellWeigher 110 = .ok (.invokevirtual 158, 3) := by decide +kernel
theorem dX6_tellWeigher_113 : decode cX6_tellWeigher 113 = .ok (.aload_n 0, 1) := by decide +kernel
theorem dX6_tellWeigher_114 : decode cX6_tellWeigher 114 = .ok (.getfield 28, 3) := by decide +kernel
theorem dX6_tellWeigher_117 : decode cX6_tellWeigher 117 = .ok (.bipush 18, 2) := by decide +kernel
theorem dX6_tellWeigher_119 : decode cX6_tellWeigher 119 = .ok (.aload_n 0, 1) := by decide +kernel
theorem dX6_tellWeigher_120 : decode cX6_tellWeigher 120 = .ok (.aload_n 0, 1) := by decide +kernel
theorem dX6_tellWeigher_121 : decode cX6_tellWeigher 121 = .ok (.getfield 65, 3) := by decide +kernel
theorem dX6_tellWeigher_124 : decode cX6_tellWeigher 124 = .ok (.iload_n 1, 1) := by decide +kernel
theorem dX6_tellWeigher_125 : decode cX6_tellWeigher 125 = .ok (.iconst 0, 1) := by decide +kernel
theorem dX6_tellWeigher_126 : decode cX6_tellWeigher 126 = .ok (.invokevirtual 139, 3) := by decide +kernel
theorem dX6_tellWeigher_129 : decode cX6_tellWeigher 129 = .ok (.invokevirtual 162, 3) := by decide +kernel
theorem dX6_tellWeigher_132 : decode cX6_tellWeigher 132 = .ok (.ifCond .eq 7, 3) := by decide +kernel
theorem dX6_tellWeigher_135 : decode cX6_tellWeigher 135 = .ok (.lconst 1, 1) := by decide +kernel
theorem dX6_tellWeigher_136 : decode cX6_tellWeigher 136 = .ok (.goto 4, 3) := by decide +kernel
theorem dX6_tellWeigher_139 : decode cX6_tellWeigher 139 = .ok (.lconst 0, 1) := by decide +kernel
theorem dX6_tellWeigher_140 : decode cX6_tellWeigher 140 = .ok (.invokevirtual 158, 3) := by decide +kernel
theorem dX6_tellWeigher_143 : decode cX6_tellWeigher 143 = .ok (.aload_n 0, 1) := by decide +kernel
theorem dX6_tellWeigher_144 : decode cX6_tellWeigher 144 = .ok (.getfield 28, 3) := by decide +kernel
theorem dX6_tellWeigher_147 : decode cX6_tellWeigher 147 = .ok (.bipush 19, 2) := by decide +kernel
theorem dX6_tellWeigher_149 : decode cX6_tellWeigher 149 = .ok (.lload 6, 2) := by decide +kernel
theorem dX6_tellWeigher_151 : decode cX6_tellWeigher 151 = .ok (.invokevirtual 158, 3) := by decide +kernel
theorem dX6_tellWeigher_154 : decode cX6_tellWeigher 154 = .ok (.aload_n 0, 1) := by decide +kernel
theorem dX6_tellWeigher_155 : decode cX6_tellWeigher 155 = .ok (.getfield 28, 3) := by decide +kernel
theorem dX6_tellWeigher_158 : decode cX6_tellWeigher 158 = .ok (.bipush 20, 2) := by decide +kernel
theorem dX6_tellWeigher_160 : decode cX6_tellWeigher 160 = .ok (.aload_n 0, 1) := by decide +kernel
theorem dX6_tellWeigher_161 : decode cX6_tellWeigher 161 = .ok (.getfield 65, 3) := by decide +kernel
theorem dX6_tellWeigher_164 : decode cX6_tellWeigher 164 = .ok (.iload_n 1, 1) := by decide +kernel
theorem dX6_tellWeigher_165 : decode cX6_tellWeigher 165 = .ok (.iconst 5, 1) := by decide +kernel
theorem dX6_tellWeigher_166 : decode cX6_tellWeigher 166 = .ok (.invokevirtual 139, 3) := by decide +kernel
theorem dX6_tellWeigher_169 : decode cX6_tellWeigher 169 = .ok (.iconst (-1), 1) := by decide +kernel
theorem dX6_tellWeigher_170 : decode cX6_tellWeigher 170 = .ok (.if_icmp .ne 7, 3) := by decide +kernel
theorem dX6_tellWeigher_173 : decode cX6_tellWeigher 173 = .ok (.lconst 0, 1) := by decide +kernel
theorem dX6_tellWeigher_174 : decode cX6_tellWeigher 174 = .ok (.goto 4, 3) := by decide +kernel
theorem dX6_tellWeigher_177 : decode cX6_tellWeigher 177 = .ok (.lconst 1, 1) := by decide +kernel
theorem dX6_tellWeigher_178 : decode cX6_tellWeigher 178 = .ok (.invokevirtual 158, 3) := by decide +kernel
theorem dX6_tellWeigher_181 : decode cX6_tellWeigher 181 = .ok (.return_, 1) := by decide +kernel
set_option maxRecDepth 20000 in
theorem ggX6_shire_X6_isPerson : GoodIn wsX6_shire wsX6_isPerson := goodIn_r _ [7] (by decide +kernel) (by decide +kernel)
set_option maxRecDepth 20000 in
theorem gX6_shire_X6_isPerson : GoodIn wsX6_shire (va_wsS RX6 166 yX6_isPerson wsX6_isPerson) := goodIn_app (goodIn_of _ (by decide +kernel)) ggX6_shire_X6_isPerson
theorem dX6_shire_0 : decode cX6_shire 0 = .ok (.iload_n 1, 1) := by decide +kernel
theorem dX6_shire_1 : decode cX6_shire 1 = .ok (.ifCond .lt 19, 3) := by decide +kernel
theorem dX6_shire_4 : decode cX6_shire 4 = .ok (.iload_n 1, 1) := by decide +kernel
theorem dX6_shire_5 : decode cX6_shire 5 = .ok (.bipush 8, 2) := by decide +kernel
theorem dX6_shire_7 : decode cX6_shire 7 = .ok (.if_icmp .ge 13, 3) := by decide +kernel
theorem dX6_shire_10 : decode cX6_shire 10 = .ok (.iload_n 2, 1) := by decide +kernel
theorem dX6_shire_11 : decode cX6_shire 11 = .ok (.ifCond .lt 9, 3) := by decide +kernel
theorem dX6_shire_14 : decode cX6_shire 14 = .ok (.iload_n 2, 1) := by decide +kernel
theorem dX6_shire_15 : decode cX6_shire 15 = .ok (.ldc 165, 2) := by decide +kernel
theorem dX6_shire_17 : decode cX6_shire 17 = .ok (.if_icmp .le 5, 3) := by decide +kernel
theorem dX6_shire_20 : decode cX6_shire 20 = .ok (.iconst (-1), 1) := by decide +kernel
theorem dX6_shire_21 : decode cX6_shire 21 = .ok (.ireturn, 1) := by decide +kernel
theorem dX6_shire_22 : decode cX6_shire 22 = .ok (.iload_n 3, 1) := by decide +kernel
theorem dX6_shire_23 : decode cX6_shire 23 = .ok (.iconst (-1), 1) := by decide +kernel
theorem dX6_shire_24 : decode cX6_shire 24 = .ok (.if_icmp .eq 12, 3) := by decide +kernel
theorem dX6_shire_27 : decode cX6_shire 27 = .ok (.iload_n 3, 1) := by decide +kernel
theorem dX6_shire_28 : decode cX6_shire 28 = .ok (.invokestatic 166, 3) := by decide +kernel
theorem dX6_shire_31 : decode cX6_shire 31 = .ok (.ifCond .ne 5, 3) := by decide +kernel
theorem dX6_shire_34 : decode cX6_shire 34 = .ok (.iconst (-1), 1) := by decide +kernel
theorem dX6_shire_35 : decode cX6_shire 35 = .ok (.ireturn, 1) := by decide +kernel
theorem dX6_shire_36 : decode cX6_shire 36 = .ok (.aload_n 0, 1) := by decide +kernel
theorem dX6_shire_37 : decode cX6_shire 37 = .ok (.getfield 59, 3) := by decide +kernel
theorem dX6_shire_40 : decode cX6_shire 40 = .ok (.iload_n 1, 1) := by decide +kernel
theorem dX6_shire_41 : decode cX6_shire 41 = .ok (.iload_n 2, 1) := by decide +kernel
theorem dX6_shire_42 : decode cX6_shire 42 = .ok (.iastore, 1) := by decide +kernel
theorem dX6_shire_43 : decode cX6_shire 43 = .ok (.aload_n 0, 1) := by decide +kernel
theorem dX6_shire_44 : decode cX6_shire 44 = .ok (.getfield 62, 3) := by decide +kernel
theorem dX6_shire_47 : decode cX6_shire 47 = .ok (.iload_n 1, 1) := by decide +kernel
theorem dX6_shire_48 : decode cX6_shire 48 = .ok (.iload_n 3, 1) := by decide +kernel
theorem dX6_shire_49 : decode cX6_shire 49 = .ok (.iastore, 1) := by decide +kernel
theorem dX6_shire_50 : decode cX6_shire 50 = .ok (.iconst 1, 1) := by decide +kernel
theorem dX6_shire_51 : decode cX6_shire 51 = .ok (.ireturn, 1) := by decide +kernel
set_option maxRecDepth 20000 in
theorem ggX6_debt_X6_isPerson : GoodIn wsX6_debt wsX6_isPerson := goodIn_r _ [5] (by decide +kernel) (by decide +kernel)
set_option maxRecDepth 20000 in
theorem gX6_debt_X6_isPerson : GoodIn wsX6_debt (va_wsS RX6 166 yX6_isPerson wsX6_isPerson) := goodIn_app (goodIn_of _ (by decide +kernel)) ggX6_debt_X6_isPerson
set_option maxRecDepth 20000 in
theorem ggX6_debt_X6_isSum : GoodIn wsX6_debt wsX6_isSum := goodIn_r _ [8, 9] (by decide +kernel) (by decide +kernel)
set_option maxRecDepth 20000 in
theorem gX6_debt_X6_isSum : GoodIn wsX6_debt (va_wsS RX6 169 yX6_isSum wsX6_isSum) := goodIn_app (goodIn_of _ (by decide +kernel)) ggX6_debt_X6_isSum
set_option maxRecDepth 20000 in
theorem ggX6_debt_X2_hasRoom : GoodIn wsX6_debt wsX2_hasRoom := goodIn_r _ [13, 14, 15, 71, 72, 73, 74] (by decide +kernel) (by decide +kernel)
set_option maxRecDepth 20000 in
theorem gX6_debt_X2_hasRoom_n172 : GoodIn wsX6_debt (wsX2_hasRoom) := ggX6_debt_X2_hasRoom
set_option maxRecDepth 20000 in
theorem ggX6_debt_X6_addDebt : GoodIn wsX6_debt wsX6_addDebt := goodIn_r _ [19, 1, 20, 21, 11, 22, 23, 14, 24, 25, 26, 10, 12, 13, 15, 27, 28, 29, 30, 31, 32, 33, 34, 35, 36, 37, 38, 39, 40, 41, 42, 43, 44, 45, 46, 47, 48, 49, 50, 51, 52, 53, 54, 55, 56, 57, 58, 59, 60, 61, 62, 63, 64, 65, 66, 67, 68, 69, 70, 71, 72, 73, 74] (by decide +kernel) (by decide +kernel)
set_option maxRecDepth 20000 in
theorem gX6_debt_X6_addDebt : GoodIn wsX6_debt (wsV RX6 173 RX6 yX6_addDebt wsX6_addDebt) := goodIn_app (goodIn_of _ (by decide +kernel)) ggX6_debt_X6_addDebt
theorem dX6_debt_0 : decode cX6_debt 0 = .ok (.iload_n 1, 1) := by decide +kernel
theorem dX6_debt_1 : decode cX6_debt 1 = .ok (.invokestatic 166, 3) := by decide +kernel
theorem dX6_debt_4 : decode cX6_debt 4 = .ok (.ifCond .eq 20, 3) := by decide +kernel
theorem dX6_debt_7 : decode cX6_debt 7 = .ok (.iload_n 2, 1) := by decide +kernel
theorem dX6_debt_8 : decode cX6_debt 8 = .ok (.iconst 1, 1) := by decide +kernel
theorem dX6_debt_9 : decode cX6_debt 9 = .ok (.if_icmp .lt 15, 3) := by decide +kernel
theorem dX6_debt_12 : decode cX6_debt 12 = .ok (.iload_n 2, 1) := by decide +kernel
theorem dX6_debt_13 : decode cX6_debt 13 = .ok (.iconst 3, 1) := by decide +kernel
theorem dX6_debt_14 : decode cX6_debt 14 = .ok (.if_icmp .gt 10, 3) := by decide +kernel
theorem dX6_debt_17 : decode cX6_debt 17 = .ok (.iload_n 3, 1) := by decide +kernel
theorem dX6_debt_18 : decode cX6_debt 18 = .ok (.invokestatic 169, 3) := by decide +kernel
theorem dX6_debt_21 : decode cX6_debt 21 = .ok (.ifCond .ne 5, 3) := by decide +kernel
theorem dX6_debt_24 : decode cX6_debt 24 = .ok (.iconst (-1), 1) := by decide +kernel
theorem dX6_debt_25 : decode cX6_debt 25 = .ok (.ireturn, 1) := by decide +kernel
theorem dX6_debt_26 : decode cX6_debt 26 = .ok (.iload_n 2, 1) := by decide +kernel
theorem dX6_debt_27 : decode cX6_debt 27 = .ok (.iconst 3, 1) := by decide +kernel
theorem dX6_debt_28 : decode cX6_debt 28 = .ok (.if_icmp .ne 25, 3) := by decide +kernel
theorem dX6_debt_31 : decode cX6_debt 31 = .ok (.iload 4, 2) := by decide +kernel
theorem dX6_debt_33 : decode cX6_debt 33 = .ok (.invokestatic 166, 3) := by decide +kernel
theorem dX6_debt_36 : decode cX6_debt 36 = .ok (.ifCond .eq 13, 3) := by decide +kernel
theorem dX6_debt_39 : decode cX6_debt 39 = .ok (.iload 4, 2) := by decide +kernel
theorem dX6_debt_41 : decode cX6_debt 41 = .ok (.iload_n 1, 1) := by decide +kernel
theorem dX6_debt_42 : decode cX6_debt 42 = .ok (.if_icmp .eq 7, 3) := by decide +kernel
theorem dX6_debt_45 : decode cX6_debt 45 = .ok (.iconst 1, 1) := by decide +kernel
theorem dX6_debt_46 : decode cX6_debt 46 = .ok (.goto 18, 3) := by decide +kernel
theorem dX6_debt_49 : decode cX6_debt 49 = .ok (.iconst 0, 1) := by decide +kernel
theorem dX6_debt_50 : decode cX6_debt 50 = .ok (.goto 14, 3) := by decide +kernel
theorem dX6_debt_53 : decode cX6_debt 53 = .ok (.iload 4, 2) := by decide +kernel
theorem dX6_debt_55 : decode cX6_debt 55 = .ok (.iconst (-1), 1) := by decide +kernel
theorem dX6_debt_56 : decode cX6_debt 56 = .ok (.if_icmp .ne 7, 3) := by decide +kernel
theorem dX6_debt_59 : decode cX6_debt 59 = .ok (.iconst 1, 1) := by decide +kernel
theorem dX6_debt_60 : decode cX6_debt 60 = .ok (.goto 4, 3) := by decide +kernel
theorem dX6_debt_63 : decode cX6_debt 63 = .ok (.iconst 0, 1) := by decide +kernel
theorem dX6_debt_64 : decode cX6_debt 64 = .ok (.istore 5, 2) := by decide +kernel
theorem dX6_debt_66 : decode cX6_debt 66 = .ok (.iload 5, 2) := by decide +kernel
theorem dX6_debt_68 : decode cX6_debt 68 = .ok (.ifCond .ne 5, 3) := by decide +kernel
theorem dX6_debt_71 : decode cX6_debt 71 = .ok (.iconst (-1), 1) := by decide +kernel
theorem dX6_debt_72 : decode cX6_debt 72 = .ok (.ireturn, 1) := by decide +kernel
theorem dX6_debt_73 : decode cX6_debt 73 = .ok (.aload_n 0, 1) := by decide +kernel
theorem dX6_debt_74 : decode cX6_debt 74 = .ok (.getfield 65, 3) := by decide +kernel
theorem dX6_debt_77 : decode cX6_debt 77 = .ok (.iconst 1, 1) := by decide +kernel
theorem dX6_debt_78 : decode cX6_debt 78 = .ok (.invokevirtual 172, 3) := by decide +kernel
theorem dX6_debt_81 : decode cX6_debt 81 = .ok (.ifCond .eq 15, 3) := by decide +kernel
theorem dX6_debt_84 : decode cX6_debt 84 = .ok (.aload_n 0, 1) := by decide +kernel
theorem dX6_debt_85 : decode cX6_debt 85 = .ok (.iload_n 1, 1) := by decide +kernel
theorem dX6_debt_86 : decode cX6_debt 86 = .ok (.iload_n 2, 1) := by decide +kernel
theorem dX6_debt_87 : decode cX6_debt 87 = .ok (.iload_n 3, 1) := by decide +kernel
theorem dX6_debt_88 : decode cX6_debt 88 = .ok (.iload 4, 2) := by decide +kernel
theorem dX6_debt_90 : decode cX6_debt 90 = .ok (.invokevirtual 173, 3) := by decide +kernel
theorem dX6_debt_93 : decode cX6_debt 93 = .ok (.goto 5, 3) := by decide +kernel
theorem dX6_debt_96 : decode cX6_debt 96 = .ok (.bipush (-3), 2) := by decide +kernel
theorem dX6_debt_98 : decode cX6_debt 98 = .ok (.ireturn, 1) := by decide +kernel
set_option maxRecDepth 20000 in
theorem ggX6_term_X6_shiresOwing : GoodIn wsX6_term wsX6_shiresOwing := goodIn_r _ [7, 8, 9, 56, 57, 58, 59, 60, 61, 62, 63, 64, 65, 66, 67, 68, 69, 70, 71, 72, 73] (by decide +kernel) (by decide +kernel)
set_option maxRecDepth 20000 in
theorem gX6_term_X6_shiresOwing : GoodIn wsX6_term (wsV RX6 177 RX6 yX6_shiresOwing wsX6_shiresOwing) := goodIn_app (goodIn_of _ (by decide +kernel)) ggX6_term_X6_shiresOwing
set_option maxRecDepth 20000 in
theorem ggX6_term_X2_hasRoom : GoodIn wsX6_term wsX2_hasRoom := goodIn_r _ [13, 14, 15, 74, 75, 76, 77] (by decide +kernel) (by decide +kernel)
set_option maxRecDepth 20000 in
theorem gX6_term_X2_hasRoom_n172 : GoodIn wsX6_term (wsX2_hasRoom) := ggX6_term_X2_hasRoom
set_option maxRecDepth 20000 in
theorem ggX6_term_X6_addFarmDebts : GoodIn wsX6_term wsX6_addFarmDebts := goodIn_r _ [19, 8, 9, 20, 21, 22, 6, 23, 2, 1, 24, 11, 25, 26, 14, 27, 28, 29, 10, 12, 13, 15, 30, 31, 32, 33, 34, 35, 36, 37, 38, 39, 40, 41, 42, 43, 44, 45, 46, 47, 48, 49, 50, 51, 52, 53, 54, 55, 56, 57, 58, 59, 60, 61, 62, 63, 64, 65, 66, 67, 68, 69, 70, 71, 72, 73, 74, 75, 76, 77] (by decide +kernel) (by decide +kernel)
set_option maxRecDepth 20000 in
theorem gX6_term_X6_addFarmDebts : GoodIn wsX6_term (wsV RX6 180 RX6 yX6_addFarmDebts wsX6_addFarmDebts) := goodIn_app (goodIn_of _ (by decide +kernel)) ggX6_term_X6_addFarmDebts
theorem dX6_term_0 : decode cX6_term 0 = .ok (.aload_n 0, 1) := by decide +kernel
theorem dX6_term_1 : decode cX6_term 1 = .ok (.getfield 120, 3) := by decide +kernel
theorem dX6_term_4 : decode cX6_term 4 = .ok (.sipush 1000, 3) := by decide +kernel
theorem dX6_term_7 : decode cX6_term 7 = .ok (.if_icmp .lt 5, 3) := by decide +kernel
theorem dX6_term_10 : decode cX6_term 10 = .ok (.iconst (-1), 1) := by decide +kernel
theorem dX6_term_11 : decode cX6_term 11 = .ok (.ireturn, 1) := by decide +kernel
theorem dX6_term_12 : decode cX6_term 12 = .ok (.aload_n 0, 1) := by decide +kernel
theorem dX6_term_13 : decode cX6_term 13 = .ok (.getfield 120, 3) := by decide +kernel
theorem dX6_term_16 : decode cX6_term 16 = .ok (.iconst 1, 1) := by decide +kernel
theorem dX6_term_17 : decode cX6_term 17 = .ok (.iadd, 1) := by decide +kernel
theorem dX6_term_18 : decode cX6_term 18 = .ok (.iconst 2, 1) := by decide +kernel
theorem dX6_term_19 : decode cX6_term 19 = .ok (.irem, 1) := by decide +kernel
theorem dX6_term_20 : decode cX6_term 20 = .ok (.ifCond .ne 7, 3) := by decide +kernel
theorem dX6_term_23 : decode cX6_term 23 = .ok (.iconst 1, 1) := by decide +kernel
theorem dX6_term_24 : decode cX6_term 24 = .ok (.goto 4, 3) := by decide +kernel
theorem dX6_term_27 : decode cX6_term 27 = .ok (.iconst 0, 1) := by decide +kernel
theorem dX6_term_28 : decode cX6_term 28 = .ok (.istore_n 1, 1) := by decide +kernel
theorem dX6_term_29 : decode cX6_term 29 = .ok (.iload_n 1, 1) := by decide +kernel
theorem dX6_term_30 : decode cX6_term 30 = .ok (.ifCond .eq 20, 3) := by decide +kernel
theorem dX6_term_33 : decode cX6_term 33 = .ok (.aload_n 0, 1) := by decide +kernel
theorem dX6_term_34 : decode cX6_term 34 = .ok (.getfield 65, 3) := by decide +kernel
theorem dX6_term_37 : decode cX6_term 37 = .ok (.aload_n 0, 1) := by decide +kernel
theorem dX6_term_38 : decode cX6_term 38 = .ok (.invokevirtual 177, 3) := by decide +kernel
theorem dX6_term_41 : decode cX6_term 41 = .ok (.invokevirtual 172, 3) := by decide +kernel
theorem dX6_term_44 : decode cX6_term 44 = .ok (.ifCond .ne 6, 3) := by decide +kernel
theorem dX6_term_47 : decode cX6_term 47 = .ok (.bipush (-3), 2) := by decide +kernel
theorem dX6_term_49 : decode cX6_term 49 = .ok (.ireturn, 1) := by decide +kernel
theorem dX6_term_50 : decode cX6_term 50 = .ok (.aload_n 0, 1) := by decide +kernel
theorem dX6_term_51 : decode cX6_term 51 = .ok (.dup, 1) := by decide +kernel
theorem dX6_term_52 : decode cX6_term 52 = .ok (.getfield 120, 3) := by decide +kernel
theorem dX6_term_55 : decode cX6_term 55 = .ok (.iconst 1, 1) := by decide +kernel
theorem dX6_term_56 : decode cX6_term 56 = .ok (.iadd, 1) := by decide +kernel
theorem dX6_term_57 : decode cX6_term 57 = .ok (.putfield 120, 3) := by decide +kernel
theorem dX6_term_60 : decode cX6_term 60 = .ok (.iload_n 1, 1) := by decide +kernel
theorem dX6_term_61 : decode cX6_term 61 = .ok (.ifCond .eq 7, 3) := by decide +kernel
theorem dX6_term_64 : decode cX6_term 64 = .ok (.aload_n 0, 1) := by decide +kernel
theorem dX6_term_65 : decode cX6_term 65 = .ok (.invokevirtual 180, 3) := by decide +kernel
theorem dX6_term_68 : decode cX6_term 68 = .ok (.aload_n 0, 1) := by decide +kernel
theorem dX6_term_69 : decode cX6_term 69 = .ok (.getfield 120, 3) := by decide +kernel
theorem dX6_term_72 : decode cX6_term 72 = .ok (.ireturn, 1) := by decide +kernel
set_option maxRecDepth 20000 in
theorem ggX6_come_X6_isPerson : GoodIn wsX6_come wsX6_isPerson := goodIn_r _ [11] (by decide +kernel) (by decide +kernel)
set_option maxRecDepth 20000 in
theorem gX6_come_X6_isPerson : GoodIn wsX6_come (va_wsS RX6 166 yX6_isPerson wsX6_isPerson) := goodIn_app (goodIn_of _ (by decide +kernel)) ggX6_come_X6_isPerson
set_option maxRecDepth 20000 in
theorem ggX6_come_X6_owedDebtsOf : GoodIn wsX6_come wsX6_owedDebtsOf := goodIn_r _ [15, 16, 17, 18, 19, 10, 20, 21, 22, 23, 24, 25, 26, 27, 28, 29, 30, 31, 32, 33, 34, 35, 165, 166, 167, 168, 169, 170, 171, 172, 173, 174, 175, 176, 177, 178, 179, 180, 181, 182, 183, 184, 185, 186] (by decide +kernel) (by decide +kernel)
set_option maxRecDepth 20000 in
theorem gX6_come_X6_owedDebtsOf : GoodIn wsX6_come (wsV RX6 184 RX6 yX6_owedDebtsOf wsX6_owedDebtsOf) := goodIn_app (goodIn_of _ (by decide +kernel)) ggX6_come_X6_owedDebtsOf
set_option maxRecDepth 20000 in
theorem ggX6_come_X2_hasRoom : GoodIn wsX6_come wsX2_hasRoom := goodIn_r _ [38, 29, 39, 183, 184, 185, 186] (by decide +kernel) (by decide +kernel)
set_option maxRecDepth 20000 in
theorem gX6_come_X2_hasRoom_n172 : GoodIn wsX6_come (wsX2_hasRoom) := ggX6_come_X2_hasRoom
set_option maxRecDepth 20000 in
theorem ggX6_come_X6_askAll : GoodIn wsX6_come wsX6_askAll := goodIn_r _ [43, 3, 16, 44, 45, 46, 10, 47, 48, 31, 26, 32, 33, 34, 30, 35, 25, 27, 28, 29, 49, 50, 51, 52, 17, 18, 19, 20, 21, 22, 23, 24, 53, 54, 55, 56, 57, 58, 59, 60, 61, 62, 63, 64, 65, 66, 67, 8, 9, 11, 68, 69, 70, 71, 72, 73, 74, 75, 4, 76, 77, 78, 79, 80, 81, 82, 83, 84, 85, 86, 87, 88, 89, 90, 91, 92, 93, 94, 95, 96, 97, 98, 99, 100, 101, 102, 103, 104, 105, 106, 107, 108, 109, 110, 111, 112, 113, 114, 115, 116, 117, 118, 119, 120, 121, 122, 123, 124, 125, 126, 5, 127, 128, 129, 130, 36, 37, 38, 39, 131, 132, 133, 134, 135, 136, 137, 138, 139, 140, 141, 142, 143, 144, 145, 146, 147, 148, 149, 150, 151, 152, 153, 154, 155, 156, 157, 158, 159, 160, 161, 162, 163, 164, 165, 166, 167, 168, 169, 170, 171, 172, 173, 174, 175, 176, 177, 178, 179, 180, 181, 182, 183, 184, 185, 186, 187, 188, 189, 190, 191, 192, 193] (by decide +kernel) (by decide +kernel)
set_option maxRecDepth 20000 in
theorem gX6_come_X6_askAll : GoodIn wsX6_come (wsV RX6 191 RX6 yX6_askAll wsX6_askAll) := goodIn_app (goodIn_of _ (by decide +kernel)) ggX6_come_X6_askAll
theorem dX6_come_0 : decode cX6_come 0 = .ok (.iload_n 1, 1) := by decide +kernel
theorem dX6_come_1 : decode cX6_come 1 = .ok (.invokestatic 166, 3) := by decide +kernel
theorem dX6_come_4 : decode cX6_come 4 = .ok (.ifCond .eq 13, 3) := by decide +kernel
theorem dX6_come_7 : decode cX6_come 7 = .ok (.iload_n 2, 1) := by decide +kernel
theorem dX6_come_8 : decode cX6_come 8 = .ok (.ifCond .lt 9, 3) := by decide +kernel
theorem dX6_come_11 : decode cX6_come 11 = .ok (.iload_n 2, 1) := by decide +kernel
theorem dX6_come_12 : decode cX6_come 12 = .ok (.ldc 183, 2) := by decide +kernel
theorem dX6_come_14 : decode cX6_come 14 = .ok (.if_icmp .le 5, 3) := by decide +kernel
theorem dX6_come_17 : decode cX6_come 17 = .ok (.iconst (-1), 1) := by decide +kernel
theorem dX6_come_18 : decode cX6_come 18 = .ok (.ireturn, 1) := by decide +kernel
theorem dX6_come_19 : decode cX6_come 19 = .ok (.aload_n 0, 1) := by decide +kernel
theorem dX6_come_20 : decode cX6_come 20 = .ok (.getfield 55, 3) := by decide +kernel
theorem dX6_come_23 : decode cX6_come 23 = .ok (.iload_n 1, 1) := by decide +kernel
theorem dX6_come_24 : decode cX6_come 24 = .ok (.iaload, 1) := by decide +kernel
theorem dX6_come_25 : decode cX6_come 25 = .ok (.aload_n 0, 1) := by decide +kernel
theorem dX6_come_26 : decode cX6_come 26 = .ok (.getfield 120, 3) := by decide +kernel
theorem dX6_come_29 : decode cX6_come 29 = .ok (.if_icmp .ne 6, 3) := by decide +kernel
theorem dX6_come_32 : decode cX6_come 32 = .ok (.bipush (-2), 2) := by decide +kernel
theorem dX6_come_34 : decode cX6_come 34 = .ok (.ireturn, 1) := by decide +kernel
theorem dX6_come_35 : decode cX6_come 35 = .ok (.aload_n 0, 1) := by decide +kernel
theorem dX6_come_36 : decode cX6_come 36 = .ok (.iload_n 1, 1) := by decide +kernel
theorem dX6_come_37 : decode cX6_come 37 = .ok (.invokevirtual 184, 3) := by decide +kernel
theorem dX6_come_40 : decode cX6_come 40 = .ok (.istore_n 3, 1) := by decide +kernel
theorem dX6_come_41 : decode cX6_come 41 = .ok (.aload_n 0, 1) := by decide +kernel
theorem dX6_come_42 : decode cX6_come 42 = .ok (.getfield 68, 3) := by decide +kernel
theorem dX6_come_45 : decode cX6_come 45 = .ok (.iload_n 3, 1) := by decide +kernel
theorem dX6_come_46 : decode cX6_come 46 = .ok (.invokevirtual 172, 3) := by decide +kernel
theorem dX6_come_49 : decode cX6_come 49 = .ok (.ifCond .eq 14, 3) := by decide +kernel
theorem dX6_come_52 : decode cX6_come 52 = .ok (.aload_n 0, 1) := by decide +kernel
theorem dX6_come_53 : decode cX6_come 53 = .ok (.getfield 71, 3) := by decide +kernel
theorem dX6_come_56 : decode cX6_come 56 = .ok (.iload_n 3, 1) := by decide +kernel
theorem dX6_come_57 : decode cX6_come 57 = .ok (.invokevirtual 172, 3) := by decide +kernel
theorem dX6_come_60 : decode cX6_come 60 = .ok (.ifCond .ne 6, 3) := by decide +kernel
theorem dX6_come_63 : decode cX6_come 63 = .ok (.bipush (-3), 2) := by decide +kernel
theorem dX6_come_65 : decode cX6_come 65 = .ok (.ireturn, 1) := by decide +kernel
theorem dX6_come_66 : decode cX6_come 66 = .ok (.aload_n 0, 1) := by decide +kernel
theorem dX6_come_67 : decode cX6_come 67 = .ok (.getfield 55, 3) := by decide +kernel
theorem dX6_come_70 : decode cX6_come 70 = .ok (.iload_n 1, 1) := by decide +kernel
theorem dX6_come_71 : decode cX6_come 71 = .ok (.aload_n 0, 1) := by decide +kernel
theorem dX6_come_72 : decode cX6_come 72 = .ok (.getfield 120, 3) := by decide +kernel
theorem dX6_come_75 : decode cX6_come 75 = .ok (.iastore, 1) := by decide +kernel
theorem dX6_come_76 : decode cX6_come 76 = .ok (.aload_n 0, 1) := by decide +kernel
theorem dX6_come_77 : decode cX6_come 77 = .ok (.dup, 1) := by decide +kernel
theorem dX6_come_78 : decode cX6_come 78 = .ok (.getfield 187, 3) := by decide +kernel
theorem dX6_come_81 : decode cX6_come 81 = .ok (.iload_n 2, 1) := by decide +kernel
theorem dX6_come_82 : decode cX6_come 82 = .ok (.i2l, 1) := by decide +kernel
theorem dX6_come_83 : decode cX6_come 83 = .ok (.ladd, 1) := by decide +kernel
theorem dX6_come_84 : decode cX6_come 84 = .ok (.putfield 187, 3) := by decide +kernel
theorem dX6_come_87 : decode cX6_come 87 = .ok (.aload_n 0, 1) := by decide +kernel
theorem dX6_come_88 : decode cX6_come 88 = .ok (.getfield 47, 3) := by decide +kernel
theorem dX6_come_91 : decode cX6_come 91 = .ok (.iload_n 1, 1) := by decide +kernel
theorem dX6_come_92 : decode cX6_come 92 = .ok (.laload, 1) := by decide +kernel
theorem dX6_come_93 : decode cX6_come 93 = .ok (.iload_n 2, 1) := by decide +kernel
theorem dX6_come_94 : decode cX6_come 94 = .ok (.i2l, 1) := by decide +kernel
theorem dX6_come_95 : decode cX6_come 95 = .ok (.ladd, 1) := by decide +kernel
theorem dX6_come_96 : decode cX6_come 96 = .ok (.lstore 4, 2) := by decide +kernel
theorem dX6_come_98 : decode cX6_come 98 = .ok (.aload_n 0, 1) := by decide +kernel
theorem dX6_come_99 : decode cX6_come 99 = .ok (.getfield 47, 3) := by decide +kernel
theorem dX6_come_102 : decode cX6_come 102 = .ok (.iload_n 1, 1) := by decide +kernel
theorem dX6_come_103 : decode cX6_come 103 = .ok (.lload 4, 2) := by decide +kernel
theorem dX6_come_105 : decode cX6_come 105 = .ok (.aload_n 0, 1) := by decide +kernel
theorem dX6_come_106 : decode cX6_come 106 = .ok (.iload_n 1, 1) := by decide +kernel
theorem dX6_come_107 : decode cX6_come 107 = .ok (.lload 4, 2) := by decide +kernel
theorem dX6_come_109 : decode cX6_come 109 = .ok (.invokevirtual 191, 3) := by decide +kernel
theorem dX6_come_112 : decode cX6_come 112 = .ok (.lsub, 1) := by decide +kernel
theorem dX6_come_113 : decode cX6_come 113 = .ok (.lastore, 1) := by decide +kernel
theorem dX6_come_114 : decode cX6_come 114 = .ok (.iload_n 3, 1) := by decide +kernel
theorem dX6_come_115 : decode cX6_come 115 = .ok (.ireturn, 1) := by decide +kernel
set_option maxRecDepth 20000 in
theorem ggX6_free_X6_isPerson : GoodIn wsX6_free wsX6_isPerson := goodIn_r _ [5] (by decide +kernel) (by decide +kernel)
set_option maxRecDepth 20000 in
theorem gX6_free_X6_isPerson : GoodIn wsX6_free (va_wsS RX6 166 yX6_isPerson wsX6_isPerson) := goodIn_app (goodIn_of _ (by decide +kernel)) ggX6_free_X6_isPerson
theorem dX6_free_0 : decode cX6_free 0 = .ok (.iload_n 1, 1) := by decide +kernel
theorem dX6_free_1 : decode cX6_free 1 = .ok (.invokestatic 166, 3) := by decide +kernel
theorem dX6_free_4 : decode cX6_free 4 = .ok (.ifCond .ne 5, 3) := by decide +kernel
theorem dX6_free_7 : decode cX6_free 7 = .ok (.iconst (-1), 1) := by decide +kernel
theorem dX6_free_8 : decode cX6_free 8 = .ok (.ireturn, 1) := by decide +kernel
theorem dX6_free_9 : decode cX6_free 9 = .ok (.aload_n 0, 1) := by decide +kernel
theorem dX6_free_10 : decode cX6_free 10 = .ok (.getfield 51, 3) := by decide +kernel
theorem dX6_free_13 : decode cX6_free 13 = .ok (.iload_n 1, 1) := by decide +kernel
theorem dX6_free_14 : decode cX6_free 14 = .ok (.baload, 1) := by decide +kernel
theorem dX6_free_15 : decode cX6_free 15 = .ok (.ifCond .eq 7, 3) := by decide +kernel
theorem dX6_free_18 : decode cX6_free 18 = .ok (.iconst 1, 1) := by decide +kernel
theorem dX6_free_19 : decode cX6_free 19 = .ok (.goto 4, 3) := by decide +kernel
theorem dX6_free_22 : decode cX6_free 22 = .ok (.iconst 0, 1) := by decide +kernel
theorem dX6_free_23 : decode cX6_free 23 = .ok (.istore_n 2, 1) := by decide +kernel
theorem dX6_free_24 : decode cX6_free 24 = .ok (.aload_n 0, 1) := by decide +kernel
theorem dX6_free_25 : decode cX6_free 25 = .ok (.getfield 51, 3) := by decide +kernel
theorem dX6_free_28 : decode cX6_free 28 = .ok (.iload_n 1, 1) := by decide +kernel
theorem dX6_free_29 : decode cX6_free 29 = .ok (.iconst 0, 1) := by decide +kernel
theorem dX6_free_30 : decode cX6_free 30 = .ok (.bastore, 1) := by decide +kernel
theorem dX6_free_31 : decode cX6_free 31 = .ok (.iload_n 2, 1) := by decide +kernel
theorem dX6_free_32 : decode cX6_free 32 = .ok (.ireturn, 1) := by decide +kernel
set_option maxRecDepth 20000 in
theorem ggX6_heir_X6_isPerson : GoodIn wsX6_heir wsX6_isPerson := goodIn_r _ [6] (by decide +kernel) (by decide +kernel)
set_option maxRecDepth 20000 in
theorem gX6_heir_X6_isPerson : GoodIn wsX6_heir (va_wsS RX6 166 yX6_isPerson wsX6_isPerson) := goodIn_app (goodIn_of _ (by decide +kernel)) ggX6_heir_X6_isPerson
set_option maxRecDepth 20000 in
theorem ggX6_heir_X6_isOwedBy : GoodIn wsX6_heir wsX6_isOwedBy := goodIn_r _ [10, 1, 11, 12, 13, 5, 14, 15, 16, 17, 18, 19, 20, 21, 22, 23, 24, 25, 33, 34, 35, 36, 37, 38, 39, 40, 41, 42, 43, 44, 45, 46, 47, 48, 49, 50, 51, 52, 53, 54] (by decide +kernel) (by decide +kernel)
set_option maxRecDepth 20000 in
theorem gX6_heir_X6_isOwedBy : GoodIn wsX6_heir (wsV RX6 195 RX6 yX6_isOwedBy wsX6_isOwedBy) := goodIn_app (goodIn_of _ (by decide +kernel)) ggX6_heir_X6_isOwedBy
set_option maxRecDepth 20000 in
theorem ggX6_heir_X6_moveDebt : GoodIn wsX6_heir wsX6_moveDebt := goodIn_r _ [29, 1, 30, 16, 31, 32, 24, 20, 25, 15, 17, 18, 19, 21, 22, 23, 33, 34, 35, 36, 37, 38, 39, 40, 41, 42, 43, 44, 45, 46, 47, 48, 49, 50, 51, 52, 53, 54] (by decide +kernel) (by decide +kernel)
set_option maxRecDepth 20000 in
theorem gX6_heir_X6_moveDebt : GoodIn wsX6_heir (wsV RX6 199 RX6 yX6_moveDebt wsX6_moveDebt) := goodIn_app (goodIn_of _ (by decide +kernel)) ggX6_heir_X6_moveDebt
theorem dX6_heir_0 : decode cX6_heir 0 = .ok (.iload_n 1, 1) := by decide +kernel
theorem dX6_heir_1 : decode cX6_heir 1 = .ok (.invokestatic 166, 3) := by decide +kernel
theorem dX6_heir_4 : decode cX6_heir 4 = .ok (.ifCond .eq 15, 3) := by decide +kernel
theorem dX6_heir_7 : decode cX6_heir 7 = .ok (.iload_n 2, 1) := by decide +kernel
theorem dX6_heir_8 : decode cX6_heir 8 = .ok (.invokestatic 166, 3) := by decide +kernel
theorem dX6_heir_11 : decode cX6_heir 11 = .ok (.ifCond .eq 8, 3) := by decide +kernel
theorem dX6_heir_14 : decode cX6_heir 14 = .ok (.iload_n 1, 1) := by decide +kernel
theorem dX6_heir_15 : decode cX6_heir 15 = .ok (.iload_n 2, 1) := by decide +kernel
theorem dX6_heir_16 : decode cX6_heir 16 = .ok (.if_icmp .ne 5, 3) := by decide +kernel
theorem dX6_heir_19 : decode cX6_heir 19 = .ok (.iconst (-1), 1) := by decide +kernel
theorem dX6_heir_20 : decode cX6_heir 20 = .ok (.ireturn, 1) := by decide +kernel
theorem dX6_heir_21 : decode cX6_heir 21 = .ok (.iconst 0, 1) := by decide +kernel
theorem dX6_heir_22 : decode cX6_heir 22 = .ok (.istore_n 3, 1) := by decide +kernel
theorem dX6_heir_23 : decode cX6_heir 23 = .ok (.iconst 0, 1) := by decide +kernel
theorem dX6_heir_24 : decode cX6_heir 24 = .ok (.istore 4, 2) := by decide +kernel
theorem dX6_heir_26 : decode cX6_heir 26 = .ok (.iload 4, 2) := by decide +kernel
theorem dX6_heir_28 : decode cX6_heir 28 = .ok (.aload_n 0, 1) := by decide +kernel
theorem dX6_heir_29 : decode cX6_heir 29 = .ok (.getfield 65, 3) := by decide +kernel
theorem dX6_heir_32 : decode cX6_heir 32 = .ok (.getfield 155, 3) := by decide +kernel
theorem dX6_heir_35 : decode cX6_heir 35 = .ok (.if_icmp .ge 29, 3) := by decide +kernel
theorem dX6_heir_38 : decode cX6_heir 38 = .ok (.aload_n 0, 1) := by decide +kernel
theorem dX6_heir_39 : decode cX6_heir 39 = .ok (.iload 4, 2) := by decide +kernel
theorem dX6_heir_41 : decode cX6_heir 41 = .ok (.iload_n 1, 1) := by decide +kernel
theorem dX6_heir_42 : decode cX6_heir 42 = .ok (.invokevirtual 195, 3) := by decide +kernel
theorem dX6_heir_45 : decode cX6_heir 45 = .ok (.ifCond .eq 13, 3) := by decide +kernel
theorem dX6_heir_48 : decode cX6_heir 48 = .ok (.aload_n 0, 1) := by decide +kernel
theorem dX6_heir_49 : decode cX6_heir 49 = .ok (.iload 4, 2) := by decide +kernel
theorem dX6_heir_51 : decode cX6_heir 51 = .ok (.iload_n 2, 1) := by decide +kernel
theorem dX6_heir_52 : decode cX6_heir 52 = .ok (.invokevirtual 199, 3) := by decide +kernel
theorem dX6_heir_55 : decode cX6_heir 55 = .ok (.iinc 3 1, 3) := by decide +kernel
theorem dX6_heir_58 : decode cX6_heir 58 = .ok (.iinc 4 1, 3) := by decide +kernel
theorem dX6_heir_61 : decode cX6_heir 61 = .ok (.goto (-35), 3) := by decide +kernel
theorem dX6_heir_64 : decode cX6_heir 64 = .ok (.aload_n 0, 1) := by decide +kernel
theorem dX6_heir_65 : decode cX6_heir 65 = .ok (.getfield 47, 3) := by decide +kernel
theorem dX6_heir_68 : decode cX6_heir 68 = .ok (.iload_n 2, 1) := by decide +kernel
theorem dX6_heir_69 : decode cX6_heir 69 = .ok (.dup2, 1) := by decide +kernel
theorem dX6_heir_70 : decode cX6_heir 70 = .ok (.laload, 1) := by decide +kernel
theorem dX6_heir_71 : decode cX6_heir 71 = .ok (.aload_n 0, 1) := by decide +kernel
theorem dX6_heir_72 : decode cX6_heir 72 = .ok (.getfield 47, 3) := by decide +kernel
theorem dX6_heir_75 : decode cX6_heir 75 = .ok (.iload_n 1, 1) := by decide +kernel
theorem dX6_heir_76 : decode cX6_heir 76 = .ok (.laload, 1) := by decide +kernel
theorem dX6_heir_77 : decode cX6_heir 77 = .ok (.ladd, 1) := by decide +kernel
theorem dX6_heir_78 : decode cX6_heir 78 = .ok (.lastore, 1) := by decide +kernel
theorem dX6_heir_79 : decode cX6_heir 79 = .ok (.aload_n 0, 1) := by decide +kernel
theorem dX6_heir_80 : decode cX6_heir 80 = .ok (.getfield 47, 3) := by decide +kernel
theorem dX6_heir_83 : decode cX6_heir 83 = .ok (.iload_n 1, 1) := by decide +kernel
theorem dX6_heir_84 : decode cX6_heir 84 = .ok (.lconst 0, 1) := by decide +kernel
theorem dX6_heir_85 : decode cX6_heir 85 = .ok (.lastore, 1) := by decide +kernel
theorem dX6_heir_86 : decode cX6_heir 86 = .ok (.iload_n 3, 1) := by decide +kernel
theorem dX6_heir_87 : decode cX6_heir 87 = .ok (.ireturn, 1) := by decide +kernel
set_option maxRecDepth 20000 in
theorem ggX6_about_X2_has : GoodIn wsX6_about wsX2_has := goodIn_r _ [5, 6, 7, 31, 32, 33, 34] (by decide +kernel) (by decide +kernel)
set_option maxRecDepth 20000 in
theorem gX6_about_X2_has_n202 : GoodIn wsX6_about (wsX2_has) := ggX6_about_X2_has
set_option maxRecDepth 20000 in
theorem ggX6_about_X2_get : GoodIn wsX6_about wsX2_get := goodIn_r _ [10, 11, 7, 12, 2, 4, 3, 5, 6, 31, 32, 33, 34] (by decide +kernel) (by decide +kernel)
set_option maxRecDepth 20000 in
theorem gX6_about_X2_get_n139 : GoodIn wsX6_about (wsX2_get) := ggX6_about_X2_get
theorem dX6_about_0 : decode cX6_about 0 = .ok (.aload_n 0, 1) := by decide +kernel
theorem dX6_about_1 : decode cX6_about 1 = .ok (.getfield 65, 3) := by decide +kernel
theorem dX6_about_4 : decode cX6_about 4 = .ok (.iload_n 1, 1) := by decide +kernel
theorem dX6_about_5 : decode cX6_about 5 = .ok (.iload_n 2, 1) := by decide +kernel
theorem dX6_about_6 : decode cX6_about 6 = .ok (.invokevirtual 202, 3) := by decide +kernel
theorem dX6_about_9 : decode cX6_about 9 = .ok (.ifCond .eq 15, 3) := by decide +kernel
theorem dX6_about_12 : decode cX6_about 12 = .ok (.aload_n 0, 1) := by decide +kernel
theorem dX6_about_13 : decode cX6_about 13 = .ok (.getfield 65, 3) := by decide +kernel
theorem dX6_about_16 : decode cX6_about 16 = .ok (.iload_n 1, 1) := by decide +kernel
theorem dX6_about_17 : decode cX6_about 17 = .ok (.iload_n 2, 1) := by decide +kernel
theorem dX6_about_18 : decode cX6_about 18 = .ok (.invokevirtual 139, 3) := by decide +kernel
theorem dX6_about_21 : decode cX6_about 21 = .ok (.goto 5, 3) := by decide +kernel
theorem dX6_about_24 : decode cX6_about 24 = .ok (.bipush (-2), 2) := by decide +kernel
theorem dX6_about_26 : decode cX6_about 26 = .ok (.ireturn, 1) := by decide +kernel
set_option maxRecDepth 20000 in
theorem ggX6_owe_X6_isPerson : GoodIn wsX6_owe wsX6_isPerson := goodIn_r _ [9] (by decide +kernel) (by decide +kernel)
set_option maxRecDepth 20000 in
theorem gX6_owe_X6_isPerson : GoodIn wsX6_owe (va_wsS RX6 166 yX6_isPerson wsX6_isPerson) := goodIn_app (goodIn_of _ (by decide +kernel)) ggX6_owe_X6_isPerson
set_option maxRecDepth 20000 in
theorem ggX6_owe_X6_leftOf : GoodIn wsX6_owe wsX6_leftOf := goodIn_r _ [13, 14, 15, 16, 17, 8, 18, 19, 20, 21, 22, 23, 24, 25, 26, 27, 28, 29, 30, 31, 32, 33, 38, 39, 40, 41, 42, 43, 44, 45, 46, 47, 48, 49, 50, 51, 52, 53, 54, 55, 56, 57, 58, 59] (by decide +kernel) (by decide +kernel)
set_option maxRecDepth 20000 in
theorem gX6_owe_X6_leftOf : GoodIn wsX6_owe (wsV RX6 143 RX6 yX6_leftOf wsX6_leftOf) := goodIn_app (goodIn_of _ (by decide +kernel)) ggX6_owe_X6_leftOf
set_option maxRecDepth 20000 in
theorem ggX6_owe_X6_owedDebtsOf : GoodIn wsX6_owe wsX6_owedDebtsOf := goodIn_r _ [37, 14, 15, 16, 17, 8, 18, 19, 20, 21, 22, 23, 24, 25, 26, 27, 28, 29, 30, 31, 32, 33, 38, 39, 40, 41, 42, 43, 44, 45, 46, 47, 48, 49, 50, 51, 52, 53, 54, 55, 56, 57, 58, 59] (by decide +kernel) (by decide +kernel)
set_option maxRecDepth 20000 in
theorem gX6_owe_X6_owedDebtsOf : GoodIn wsX6_owe (wsV RX6 184 RX6 yX6_owedDebtsOf wsX6_owedDebtsOf) := goodIn_app (goodIn_of _ (by decide +kernel)) ggX6_owe_X6_owedDebtsOf
theorem dX6_owe_0 : decode cX6_owe 0 = .ok (.iload_n 1, 1) := by decide +kernel
theorem dX6_owe_1 : decode cX6_owe 1 = .ok (.invokestatic 166, 3) := by decide +kernel
theorem dX6_owe_4 : decode cX6_owe 4 = .ok (.ifCond .ne 7, 3) := by decide +kernel
theorem dX6_owe_7 : decode cX6_owe 7 = .ok (.ldc2_w 205, 3) := by decide +kernel
theorem dX6_owe_10 : decode cX6_owe 10 = .ok (.lreturn, 1) := by decide +kernel
theorem dX6_owe_11 : decode cX6_owe 11 = .ok (.iload_n 2, 1) := by decide +kernel
theorem dX6_owe_12 : decode cX6_owe 12 = .ok (.tableswitch 90 0 4 #[36, 42, 49, 64, 71], 36) := by decide +kernel
theorem dX6_owe_48 : decode cX6_owe 48 = .ok (.aload_n 0, 1) := by decide +kernel
theorem dX6_owe_49 : decode cX6_owe 49 = .ok (.iload_n 1, 1) := by decide +kernel
theorem dX6_owe_50 : decode cX6_owe 50 = .ok (.invokevirtual 143, 3) := by decide +kernel
theorem dX6_owe_53 : decode cX6_owe 53 = .ok (.lreturn, 1) := by decide +kernel
theorem dX6_owe_54 : decode cX6_owe 54 = .ok (.aload_n 0, 1) := by decide +kernel
theorem dX6_owe_55 : decode cX6_owe 55 = .ok (.getfield 47, 3) := by decide +kernel
theorem dX6_owe_58 : decode cX6_owe 58 = .ok (.iload_n 1, 1) := by decide +kernel
theorem dX6_owe_59 : decode cX6_owe 59 = .ok (.laload, 1) := by decide +kernel
theorem dX6_owe_60 : decode cX6_owe 60 = .ok (.lreturn, 1) := by decide +kernel
theorem dX6_owe_61 : decode cX6_owe 61 = .ok (.aload_n 0, 1) := by decide +kernel
theorem dX6_owe_62 : decode cX6_owe 62 = .ok (.getfield 51, 3) := by decide +kernel
theorem dX6_owe_65 : decode cX6_owe 65 = .ok (.iload_n 1, 1) := by decide +kernel
theorem dX6_owe_66 : decode cX6_owe 66 = .ok (.baload, 1) := by decide +kernel
theorem dX6_owe_67 : decode cX6_owe 67 = .ok (.ifCond .eq 7, 3) := by decide +kernel
theorem dX6_owe_70 : decode cX6_owe 70 = .ok (.lconst 1, 1) := by decide +kernel
theorem dX6_owe_71 : decode cX6_owe 71 = .ok (.goto 4, 3) := by decide +kernel
theorem dX6_owe_74 : decode cX6_owe 74 = .ok (.lconst 0, 1) := by decide +kernel
theorem dX6_owe_75 : decode cX6_owe 75 = .ok (.lreturn, 1) := by decide +kernel
theorem dX6_owe_76 : decode cX6_owe 76 = .ok (.aload_n 0, 1) := by decide +kernel
theorem dX6_owe_77 : decode cX6_owe 77 = .ok (.iload_n 1, 1) := by decide +kernel
theorem dX6_owe_78 : decode cX6_owe 78 = .ok (.invokevirtual 184, 3) := by decide +kernel
theorem dX6_owe_81 : decode cX6_owe 81 = .ok (.i2l, 1) := by decide +kernel
theorem dX6_owe_82 : decode cX6_owe 82 = .ok (.lreturn, 1) := by decide +kernel
theorem dX6_owe_83 : decode cX6_owe 83 = .ok (.aload_n 0, 1) := by decide +kernel
theorem dX6_owe_84 : decode cX6_owe 84 = .ok (.getfield 55, 3) := by decide +kernel
theorem dX6_owe_87 : decode cX6_owe 87 = .ok (.iload_n 1, 1) := by decide +kernel
theorem dX6_owe_88 : decode cX6_owe 88 = .ok (.iaload, 1) := by decide +kernel
theorem dX6_owe_89 : decode cX6_owe 89 = .ok (.aload_n 0, 1) := by decide +kernel
theorem dX6_owe_90 : decode cX6_owe 90 = .ok (.getfield 120, 3) := by decide +kernel
theorem dX6_owe_93 : decode cX6_owe 93 = .ok (.if_icmp .ne 7, 3) := by decide +kernel
theorem dX6_owe_96 : decode cX6_owe 96 = .ok (.lconst 1, 1) := by decide +kernel
theorem dX6_owe_97 : decode cX6_owe 97 = .ok (.goto 4, 3) := by decide +kernel
theorem dX6_owe_100 : decode cX6_owe 100 = .ok (.lconst 0, 1) := by decide +kernel
theorem dX6_owe_101 : decode cX6_owe 101 = .ok (.lreturn, 1) := by decide +kernel
theorem dX6_owe_102 : decode cX6_owe 102 = .ok (.ldc2_w 205, 3) := by decide +kernel
theorem dX6_owe_105 : decode cX6_owe 105 = .ok (.lreturn, 1) := by decide +kernel
theorem dX6_isPerson_0 : decode cX6_isPerson 0 = .ok (.iload_n 0, 1) := by decide +kernel
theorem dX6_isPerson_1 : decode cX6_isPerson 1 = .ok (.ifCond .lt 13, 3) := by decide +kernel
theorem dX6_isPerson_4 : decode cX6_isPerson 4 = .ok (.iload_n 0, 1) := by decide +kernel
theorem dX6_isPerson_5 : decode cX6_isPerson 5 = .ok (.bipush 16, 2) := by decide +kernel
theorem dX6_isPerson_7 : decode cX6_isPerson 7 = .ok (.if_icmp .ge 7, 3) := by decide +kernel
theorem dX6_isPerson_10 : decode cX6_isPerson 10 = .ok (.iconst 1, 1) := by decide +kernel
theorem dX6_isPerson_11 : decode cX6_isPerson 11 = .ok (.goto 4, 3) := by decide +kernel
theorem dX6_isPerson_14 : decode cX6_isPerson 14 = .ok (.iconst 0, 1) := by decide +kernel
theorem dX6_isPerson_15 : decode cX6_isPerson 15 = .ok (.ireturn, 1) := by decide +kernel
theorem dX6_isSum_0 : decode cX6_isSum 0 = .ok (.iload_n 0, 1) := by decide +kernel
theorem dX6_isSum_1 : decode cX6_isSum 1 = .ok (.iconst 1, 1) := by decide +kernel
theorem dX6_isSum_2 : decode cX6_isSum 2 = .ok (.if_icmp .lt 13, 3) := by decide +kernel
theorem dX6_isSum_5 : decode cX6_isSum 5 = .ok (.iload_n 0, 1) := by decide +kernel
theorem dX6_isSum_6 : decode cX6_isSum 6 = .ok (.ldc 183, 2) := by decide +kernel
theorem dX6_isSum_8 : decode cX6_isSum 8 = .ok (.if_icmp .gt 7, 3) := by decide +kernel
