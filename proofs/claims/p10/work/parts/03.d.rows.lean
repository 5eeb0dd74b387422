theorem dX6_addDebt_16 : decode cX6_addDebt 16 = .ok (.iload_n 1, 1) := by decide +kernel
theorem dX6_addDebt_17 : decode cX6_addDebt 17 = .ok (.invokevirtual 127, 3) := by decide +kernel
theorem dX6_addDebt_20 : decode cX6_addDebt 20 = .ok (.aload_n 0, 1) := by decide +kernel
theorem dX6_addDebt_21 : decode cX6_addDebt 21 = .ok (.getfield 65, 3) := by decide +kernel
theorem dX6_addDebt_24 : decode cX6_addDebt 24 = .ok (.iload 5, 2) := by decide +kernel
theorem dX6_addDebt_26 : decode cX6_addDebt 26 = .ok (.iconst 1, 1) := by decide +kernel
theorem dX6_addDebt_27 : decode cX6_addDebt 27 = .ok (.iload_n 2, 1) := by decide +kernel
theorem dX6_addDebt_28 : decode cX6_addDebt 28 = .ok (.invokevirtual 127, 3) := by decide +kernel
theorem dX6_addDebt_31 : decode cX6_addDebt 31 = .ok (.aload_n 0, 1) := by decide +kernel
theorem dX6_addDebt_32 : decode cX6_addDebt 32 = .ok (.getfield 65, 3) := by decide +kernel
theorem dX6_addDebt_35 : decode cX6_addDebt 35 = .ok (.iload 5, 2) := by decide +kernel
theorem dX6_addDebt_37 : decode cX6_addDebt 37 = .ok (.iconst 2, 1) := by decide +kernel
theorem dX6_addDebt_38 : decode cX6_addDebt 38 = .ok (.iload_n 3, 1) := by decide +kernel
theorem dX6_addDebt_39 : decode cX6_addDebt 39 = .ok (.invokevirtual 127, 3) := by decide +kernel
theorem dX6_addDebt_42 : decode cX6_addDebt 42 = .ok (.aload_n 0, 1) := by decide +kernel
theorem dX6_addDebt_43 : decode cX6_addDebt 43 = .ok (.getfield 65, 3) := by decide +kernel
theorem dX6_addDebt_46 : decode cX6_addDebt 46 = .ok (.iload 5, 2) := by decide +kernel
theorem dX6_addDebt_48 : decode cX6_addDebt 48 = .ok (.iconst 3, 1) := by decide +kernel
theorem dX6_addDebt_49 : decode cX6_addDebt 49 = .ok (.iload_n 3, 1) := by decide +kernel
theorem dX6_addDebt_50 : decode cX6_addDebt 50 = .ok (.invokevirtual 127, 3) := by decide +kernel
theorem dX6_addDebt_53 : decode cX6_addDebt 53 = .ok (.aload_n 0, 1) := by decide +kernel
theorem dX6_addDebt_54 : decode cX6_addDebt 54 = .ok (.getfield 65, 3) := by decide +kernel
theorem dX6_addDebt_57 : decode cX6_addDebt 57 = .ok (.iload 5, 2) := by decide +kernel
theorem dX6_addDebt_59 : decode cX6_addDebt 59 = .ok (.iconst 4, 1) := by decide +kernel
theorem dX6_addDebt_60 : decode cX6_addDebt 60 = .ok (.aload_n 0, 1) := by decide +kernel
theorem dX6_addDebt_61 : decode cX6_addDebt 61 = .ok (.getfield 120, 3) := by decide +kernel
theorem dX6_addDebt_64 : decode cX6_addDebt 64 = .ok (.invokevirtual 127, 3) := by decide +kernel
theorem dX6_addDebt_67 : decode cX6_addDebt 67 = .ok (.aload_n 0, 1) := by decide +kernel
theorem dX6_addDebt_68 : decode cX6_addDebt 68 = .ok (.getfield 65, 3) := by decide +kernel
theorem dX6_addDebt_71 : decode cX6_addDebt 71 = .ok (.iload 5, 2) := by decide +kernel
theorem dX6_addDebt_73 : decode cX6_addDebt 73 = .ok (.iconst 5, 1) := by decide +kernel
theorem dX6_addDebt_74 : decode cX6_addDebt 74 = .ok (.iload 4, 2) := by decide +kernel
theorem dX6_addDebt_76 : decode cX6_addDebt 76 = .ok (.invokevirtual 127, 3) := by decide +kernel
theorem dX6_addDebt_79 : decode cX6_addDebt 79 = .ok (.iload 5, 2) := by decide +kernel
theorem dX6_addDebt_81 : decode cX6_addDebt 81 = .ok (.ireturn, 1) := by decide +kernel
theorem dX6_shiresOwing_0 : decode cX6_shiresOwing 0 = .ok (.iconst 0, 1) := by decide +kernel
theorem dX6_shiresOwing_1 : decode cX6_shiresOwing 1 = .ok (.istore_n 1, 1) := by decide +kernel
theorem dX6_shiresOwing_2 : decode cX6_shiresOwing 2 = .ok (.iconst 0, 1) := by decide +kernel
theorem dX6_shiresOwing_3 : decode cX6_shiresOwing 3 = .ok (.istore_n 2, 1) := by decide +kernel
theorem dX6_shiresOwing_4 : decode cX6_shiresOwing 4 = .ok (.iload_n 2, 1) := by decide +kernel
theorem dX6_shiresOwing_5 : decode cX6_shiresOwing 5 = .ok (.bipush 8, 2) := by decide +kernel
theorem dX6_shiresOwing_7 : decode cX6_shiresOwing 7 = .ok (.if_icmp .ge 31, 3) := by decide +kernel
theorem dX6_shiresOwing_10 : decode cX6_shiresOwing 10 = .ok (.aload_n 0, 1) := by decide +kernel
theorem dX6_shiresOwing_11 : decode cX6_shiresOwing 11 = .ok (.getfield 59, 3) := by decide +kernel
theorem dX6_shiresOwing_14 : decode cX6_shiresOwing 14 = .ok (.iload_n 2, 1) := by decide +kernel
theorem dX6_shiresOwing_15 : decode cX6_shiresOwing 15 = .ok (.iaload, 1) := by decide +kernel
theorem dX6_shiresOwing_16 : decode cX6_shiresOwing 16 = .ok (.ifCond .le 16, 3) := by decide +kernel
theorem dX6_shiresOwing_19 : decode cX6_shiresOwing 19 = .ok (.aload_n 0, 1) := by decide +kernel
theorem dX6_shiresOwing_20 : decode cX6_shiresOwing 20 = .ok (.getfield 62, 3) := by decide +kernel
theorem dX6_shiresOwing_23 : decode cX6_shiresOwing 23 = .ok (.iload_n 2, 1) := by decide +kernel
theorem dX6_shiresOwing_24 : decode cX6_shiresOwing 24 = .ok (.iaload, 1) := by decide +kernel
theorem dX6_shiresOwing_25 : decode cX6_shiresOwing 25 = .ok (.iconst (-1), 1) := by decide +kernel
theorem dX6_shiresOwing_26 : decode cX6_shiresOwing 26 = .ok (.if_icmp .eq 6, 3) := by decide +kernel
theorem dX6_shiresOwing_29 : decode cX6_shiresOwing 29 = .ok (.iinc 1 1, 3) := by decide +kernel
theorem dX6_shiresOwing_32 : decode cX6_shiresOwing 32 = .ok (.iinc 2 1, 3) := by decide +kernel
theorem dX6_shiresOwing_35 : decode cX6_shiresOwing 35 = .ok (.goto (-31), 3) := by decide +kernel
theorem dX6_shiresOwing_38 : decode cX6_shiresOwing 38 = .ok (.iload_n 1, 1) := by decide +kernel
theorem dX6_shiresOwing_39 : decode cX6_shiresOwing 39 = .ok (.ireturn, 1) := by decide +kernel
set_option maxRecDepth 20000 in
theorem ggX6_addFarmDebts_X6_addDebt : GoodIn wsX6_addFarmDebts wsX6_addDebt := goodIn_r _ [7, 8, 9, 10, 11, 12, 13, 14, 15, 16, 17, 18, 19, 20, 21, 22, 23, 24, 25, 26, 27, 28, 29, 30, 31, 32, 33, 34, 35, 36, 37, 38, 39, 40, 41, 42, 43, 44, 45, 46, 47, 48, 49, 50, 51, 52, 53, 54, 55, 56, 57, 58, 59, 60, 61, 62, 63, 64, 65, 66, 67, 68, 69] (by decide +kernel) (by decide +kernel)
set_option maxRecDepth 20000 in
theorem gX6_addFarmDebts_X6_addDebt : GoodIn wsX6_addFarmDebts (wsV RX6 173 RX6 yX6_addDebt wsX6_addDebt) := goodIn_app (goodIn_of _ (by decide +kernel)) ggX6_addFarmDebts_X6_addDebt
theorem dX6_addFarmDebts_0 : decode cX6_addFarmDebts 0 = .ok (.iconst 0, 1) := by decide +kernel
theorem dX6_addFarmDebts_1 : decode cX6_addFarmDebts 1 = .ok (.istore_n 1, 1) := by decide +kernel
theorem dX6_addFarmDebts_2 : decode cX6_addFarmDebts 2 = .ok (.iload_n 1, 1) := by decide +kernel
theorem dX6_addFarmDebts_3 : decode cX6_addFarmDebts 3 = .ok (.bipush 8, 2) := by decide +kernel
theorem dX6_addFarmDebts_5 : decode cX6_addFarmDebts 5 = .ok (.if_icmp .ge 47, 3) := by decide +kernel
theorem dX6_addFarmDebts_8 : decode cX6_addFarmDebts 8 = .ok (.aload_n 0, 1) := by decide +kernel
theorem dX6_addFarmDebts_9 : decode cX6_addFarmDebts 9 = .ok (.getfield 59, 3) := by decide +kernel
theorem dX6_addFarmDebts_12 : decode cX6_addFarmDebts 12 = .ok (.iload_n 1, 1) := by decide +kernel
theorem dX6_addFarmDebts_13 : decode cX6_addFarmDebts 13 = .ok (.iaload, 1) := by decide +kernel
theorem dX6_addFarmDebts_14 : decode cX6_addFarmDebts 14 = .ok (.ifCond .le 32, 3) := by decide +kernel
theorem dX6_addFarmDebts_17 : decode cX6_addFarmDebts 17 = .ok (.aload_n 0, 1) := by decide +kernel
theorem dX6_addFarmDebts_18 : decode cX6_addFarmDebts 18 = .ok (.getfield 62, 3) := by decide +kernel
theorem dX6_addFarmDebts_21 : decode cX6_addFarmDebts 21 = .ok (.iload_n 1, 1) := by decide +kernel
theorem dX6_addFarmDebts_22 : decode cX6_addFarmDebts 22 = .ok (.iaload, 1) := by decide +kernel
theorem dX6_addFarmDebts_23 : decode cX6_addFarmDebts 23 = .ok (.iconst (-1), 1) := by decide +kernel
theorem dX6_addFarmDebts_24 : decode cX6_addFarmDebts 24 = .ok (.if_icmp .eq 22, 3) := by decide +kernel
theorem dX6_addFarmDebts_27 : decode cX6_addFarmDebts 27 = .ok (.aload_n 0, 1) := by decide +kernel
theorem dX6_addFarmDebts_28 : decode cX6_addFarmDebts 28 = .ok (.aload_n 0, 1) := by decide +kernel
theorem dX6_addFarmDebts_29 : decode cX6_addFarmDebts 29 = .ok (.getfield 62, 3) := by decide +kernel
theorem dX6_addFarmDebts_32 : decode cX6_addFarmDebts 32 = .ok (.iload_n 1, 1) := by decide +kernel
theorem dX6_addFarmDebts_33 : decode cX6_addFarmDebts 33 = .ok (.iaload, 1) := by decide +kernel
theorem dX6_addFarmDebts_34 : decode cX6_addFarmDebts 34 = .ok (.iconst 0, 1) := by decide +kernel
theorem dX6_addFarmDebts_35 : decode cX6_addFarmDebts 35 = .ok (.aload_n 0, 1) := by decide +kernel
theorem dX6_addFarmDebts_36 : decode cX6_addFarmDebts 36 = .ok (.getfield 59, 3) := by decide +kernel
theorem dX6_addFarmDebts_39 : decode cX6_addFarmDebts 39 = .ok (.iload_n 1, 1) := by decide +kernel
theorem dX6_addFarmDebts_40 : decode cX6_addFarmDebts 40 = .ok (.iaload, 1) := by decide +kernel
theorem dX6_addFarmDebts_41 : decode cX6_addFarmDebts 41 = .ok (.iconst (-1), 1) := by decide +kernel
theorem dX6_addFarmDebts_42 : decode cX6_addFarmDebts 42 = .ok (.invokevirtual 173, 3) := by decide +kernel
theorem dX6_addFarmDebts_45 : decode cX6_addFarmDebts 45 = .ok (.pop, 1) := by decide +kernel
theorem dX6_addFarmDebts_46 : decode cX6_addFarmDebts 46 = .ok (.iinc 1 1, 3) := by decide +kernel
theorem dX6_addFarmDebts_49 : decode cX6_addFarmDebts 49 = .ok (.goto (-47), 3) := by decide +kernel
theorem dX6_addFarmDebts_52 : decode cX6_addFarmDebts 52 = .ok (.return_, 1) := by decide +kernel
set_option maxRecDepth 20000 in
theorem ggX6_moveDebt_X2_set : GoodIn wsX6_moveDebt wsX2_set := goodIn_r _ [5, 6, 7, 8, 9, 10, 3, 11, 12, 34, 35, 36, 37] (by decide +kernel) (by decide +kernel)
set_option maxRecDepth 20000 in
theorem gX6_moveDebt_X2_set_n127 : GoodIn wsX6_moveDebt (wsX2_set) := ggX6_moveDebt_X2_set
set_option maxRecDepth 20000 in
theorem ggX6_moveDebt_X2_get : GoodIn wsX6_moveDebt wsX2_get := goodIn_r _ [15, 6, 7, 8, 9, 10, 3, 11, 12, 34, 35, 36, 37] (by decide +kernel) (by decide +kernel)
set_option maxRecDepth 20000 in
theorem gX6_moveDebt_X2_get_n139 : GoodIn wsX6_moveDebt (wsX2_get) := ggX6_moveDebt_X2_get
theorem dX6_moveDebt_0 : decode cX6_moveDebt 0 = .ok (.aload_n 0, 1) := by decide +kernel
theorem dX6_moveDebt_1 : decode cX6_moveDebt 1 = .ok (.getfield 65, 3) := by decide +kernel
theorem dX6_moveDebt_4 : decode cX6_moveDebt 4 = .ok (.iload_n 1, 1) := by decide +kernel
theorem dX6_moveDebt_5 : decode cX6_moveDebt 5 = .ok (.iconst 0, 1) := by decide +kernel
theorem dX6_moveDebt_6 : decode cX6_moveDebt 6 = .ok (.iload_n 2, 1) := by decide +kernel
theorem dX6_moveDebt_7 : decode cX6_moveDebt 7 = .ok (.invokevirtual 127, 3) := by decide +kernel
theorem dX6_moveDebt_10 : decode cX6_moveDebt 10 = .ok (.aload_n 0, 1) := by decide +kernel
theorem dX6_moveDebt_11 : decode cX6_moveDebt 11 = .ok (.getfield 65, 3) := by decide +kernel
theorem dX6_moveDebt_14 : decode cX6_moveDebt 14 = .ok (.iload_n 1, 1) := by decide +kernel
theorem dX6_moveDebt_15 : decode cX6_moveDebt 15 = .ok (.iconst 5, 1) := by decide +kernel
theorem dX6_moveDebt_16 : decode cX6_moveDebt 16 = .ok (.invokevirtual 139, 3) := by decide +kernel
theorem dX6_moveDebt_19 : decode cX6_moveDebt 19 = .ok (.iload_n 2, 1) := by decide +kernel
theorem dX6_moveDebt_20 : decode cX6_moveDebt 20 = .ok (.if_icmp .ne 13, 3) := by decide +kernel
theorem dX6_moveDebt_23 : decode cX6_moveDebt 23 = .ok (.aload_n 0, 1) := by decide +kernel
theorem dX6_moveDebt_24 : decode cX6_moveDebt 24 = .ok (.getfield 65, 3) := by decide +kernel
theorem dX6_moveDebt_27 : decode cX6_moveDebt 27 = .ok (.iload_n 1, 1) := by decide +kernel
theorem dX6_moveDebt_28 : decode cX6_moveDebt 28 = .ok (.iconst 5, 1) := by decide +kernel
theorem dX6_moveDebt_29 : decode cX6_moveDebt 29 = .ok (.iconst (-1), 1) := by decide +kernel
theorem dX6_moveDebt_30 : decode cX6_moveDebt 30 = .ok (.invokevirtual 127, 3) := by decide +kernel
theorem dX6_moveDebt_33 : decode cX6_moveDebt 33 = .ok (.return_, 1) := by decide +kernel
set_option maxRecDepth 20000 in
theorem ggX6_askAll_X6_textInForce : GoodIn wsX6_askAll wsX6_textInForce := goodIn_r _ [7, 8, 9, 10, 11, 12, 13, 14, 15, 16, 17, 18, 19, 153, 154, 155, 156, 157, 158, 159, 160, 161, 162, 163, 164, 165, 166, 167, 168, 169, 170, 171, 172, 173, 174] (by decide +kernel) (by decide +kernel)
set_option maxRecDepth 20000 in
theorem gX6_askAll_X6_textInForce : GoodIn wsX6_askAll (wsV RX6 131 RX6 yX6_textInForce wsX6_textInForce) := goodIn_app (goodIn_of _ (by decide +kernel)) ggX6_askAll_X6_textInForce
set_option maxRecDepth 20000 in
theorem ggX6_askAll_X6_leftOf : GoodIn wsX6_askAll wsX6_leftOf := goodIn_r _ [23, 2, 24, 25, 26, 6, 27, 28, 29, 30, 31, 16, 10, 17, 18, 19, 14, 9, 11, 12, 13, 15, 153, 154, 155, 156, 157, 158, 159, 160, 161, 162, 163, 164, 165, 166, 167, 168, 169, 170, 171, 172, 173, 174] (by decide +kernel) (by decide +kernel)
set_option maxRecDepth 20000 in
theorem gX6_askAll_X6_leftOf : GoodIn wsX6_askAll (wsV RX6 143 RX6 yX6_leftOf wsX6_leftOf) := goodIn_app (goodIn_of _ (by decide +kernel)) ggX6_askAll_X6_leftOf
set_option maxRecDepth 20000 in
theorem ggX6_askAll_X6_isOwedBy : GoodIn wsX6_askAll wsX6_isOwedBy := goodIn_r _ [27, 2, 28, 29, 30, 6, 31, 16, 10, 17, 18, 19, 14, 9, 11, 12, 13, 15, 153, 154, 155, 156, 157, 158, 159, 160, 161, 162, 163, 164, 165, 166, 167, 168, 169, 170, 171, 172, 173, 174] (by decide +kernel) (by decide +kernel)
set_option maxRecDepth 20000 in
theorem gX6_askAll_X6_isOwedBy : GoodIn wsX6_askAll (wsV RX6 195 RX6 yX6_isOwedBy wsX6_isOwedBy) := goodIn_app (goodIn_of _ (by decide +kernel)) ggX6_askAll_X6_isOwedBy
set_option maxRecDepth 20000 in
theorem ggX6_askAll_X2_get : GoodIn wsX6_askAll wsX2_get := goodIn_r _ [12, 13, 14, 15, 16, 17, 10, 18, 19, 171, 172, 173, 174] (by decide +kernel) (by decide +kernel)
set_option maxRecDepth 20000 in
theorem gX6_askAll_X2_get_n139 : GoodIn wsX6_askAll (wsX2_get) := ggX6_askAll_X2_get
set_option maxRecDepth 20000 in
theorem ggX6_askAll_X6_tellWeigher : GoodIn wsX6_askAll wsX6_tellWeigher := goodIn_r _ [35, 36, 2, 1, 9, 10, 11, 12, 13, 14, 15, 16, 17, 18, 19, 37, 38, 39, 40, 41, 42, 43, 44, 6, 45, 46, 47, 48, 49, 153, 154, 155, 156, 157, 158, 159, 160, 161, 162, 163, 164, 165, 166, 167, 168, 169, 170, 171, 172, 173, 174, 175, 176, 177] (by decide +kernel) (by decide +kernel)
set_option maxRecDepth 20000 in
theorem gX6_askAll_X6_tellWeigher : GoodIn wsX6_askAll (wsV RX6 147 RX6 yX6_tellWeigher wsX6_tellWeigher) := goodIn_app (goodIn_of _ (by decide +kernel)) ggX6_askAll_X6_tellWeigher
set_option maxRecDepth 20000 in
theorem ggX6_askAll_X6_askDebt : GoodIn wsX6_askAll wsX6_askDebt := goodIn_r _ [53, 36, 2, 54, 55, 56, 57, 58, 59, 60, 61, 6, 62, 63, 64, 65, 38, 66, 67, 68, 69, 70, 71, 72, 73, 74, 75, 76, 77, 78, 79, 80, 81, 82, 83, 84, 85, 41, 86, 87, 88, 89, 90, 91, 92, 93, 94, 95, 96, 97, 98, 99, 100, 101, 102, 103, 104, 105, 9, 10, 11, 12, 13, 14, 15, 16, 17, 18, 19, 106, 107, 108, 109, 110, 111, 112, 113, 114, 115, 116, 117, 118, 119, 120, 121, 122, 123, 124, 125, 126, 127, 128, 129, 130, 131, 132, 133, 134, 135, 136, 137, 138, 139, 140, 141, 142, 143, 1, 144, 145, 146, 147, 148, 46, 149, 150, 151, 152, 47, 48, 49, 153, 154, 155, 156, 157, 158, 159, 160, 161, 162, 163, 164, 165, 166, 167, 168, 169, 170, 171, 172, 173, 174, 178, 179, 180, 181, 175, 176, 177] (by decide +kernel) (by decide +kernel)
set_option maxRecDepth 20000 in
theorem gX6_askAll_X6_askDebt : GoodIn wsX6_askAll (wsV RX6 207 RX6 yX6_askDebt wsX6_askDebt) := goodIn_app (goodIn_of _ (by decide +kernel)) ggX6_askAll_X6_askDebt
theorem dX6_askAll_0 : decode cX6_askAll 0 = .ok (.aload_n 0, 1) := by decide +kernel
theorem dX6_askAll_1 : decode cX6_askAll 1 = .ok (.aload_n 0, 1) := by decide +kernel
theorem dX6_askAll_2 : decode cX6_askAll 2 = .ok (.getfield 120, 3) := by decide +kernel
theorem dX6_askAll_5 : decode cX6_askAll 5 = .ok (.invokevirtual 131, 3) := by decide +kernel
theorem dX6_askAll_8 : decode cX6_askAll 8 = .ok (.istore 4, 2) := by decide +kernel
theorem dX6_askAll_10 : decode cX6_askAll 10 = .ok (.aload_n 0, 1) := by decide +kernel
theorem dX6_askAll_11 : decode cX6_askAll 11 = .ok (.iload_n 1, 1) := by decide +kernel
theorem dX6_askAll_12 : decode cX6_askAll 12 = .ok (.invokevirtual 143, 3) := by decide +kernel
theorem dX6_askAll_15 : decode cX6_askAll 15 = .ok (.lstore 5, 2) := by decide +kernel
theorem dX6_askAll_17 : decode cX6_askAll 17 = .ok (.lconst 0, 1) := by decide +kernel
theorem dX6_askAll_18 : decode cX6_askAll 18 = .ok (.lstore 7, 2) := by decide +kernel
theorem dX6_askAll_20 : decode cX6_askAll 20 = .ok (.iconst 0, 1) := by decide +kernel
theorem dX6_askAll_21 : decode cX6_askAll 21 = .ok (.istore 9, 2) := by decide +kernel
theorem dX6_askAll_23 : decode cX6_askAll 23 = .ok (.iload 9, 2) := by decide +kernel
theorem dX6_askAll_25 : decode cX6_askAll 25 = .ok (.aload_n 0, 1) := by decide +kernel
theorem dX6_askAll_26 : decode cX6_askAll 26 = .ok (.getfield 65, 3) := by decide +kernel
theorem dX6_askAll_29 : decode cX6_askAll 29 = .ok (.getfield 155, 3) := by decide +kernel
theorem dX6_askAll_32 : decode cX6_askAll 32 = .ok (.if_icmp .ge 100, 3) := by decide +kernel
theorem dX6_askAll_35 : decode cX6_askAll 35 = .ok (.aload_n 0, 1) := by decide +kernel
theorem dX6_askAll_36 : decode cX6_askAll 36 = .ok (.iload 9, 2) := by decide +kernel
theorem dX6_askAll_38 : decode cX6_askAll 38 = .ok (.iload_n 1, 1) := by decide +kernel
theorem dX6_askAll_39 : decode cX6_askAll 39 = .ok (.invokevirtual 195, 3) := by decide +kernel
theorem dX6_askAll_42 : decode cX6_askAll 42 = .ok (.ifCond .eq 84, 3) := by decide +kernel
theorem dX6_askAll_45 : decode cX6_askAll 45 = .ok (.aload_n 0, 1) := by decide +kernel
theorem dX6_askAll_46 : decode cX6_askAll 46 = .ok (.getfield 65, 3) := by decide +kernel
theorem dX6_askAll_49 : decode cX6_askAll 49 = .ok (.iload 9, 2) := by decide +kernel
theorem dX6_askAll_51 : decode cX6_askAll 51 = .ok (.iconst 3, 1) := by decide +kernel
theorem dX6_askAll_52 : decode cX6_askAll 52 = .ok (.invokevirtual 139, 3) := by decide +kernel
theorem dX6_askAll_55 : decode cX6_askAll 55 = .ok (.istore 10, 2) := by decide +kernel
theorem dX6_askAll_57 : decode cX6_askAll 57 = .ok (.lload_n 2, 1) := by decide +kernel
theorem dX6_askAll_58 : decode cX6_askAll 58 = .ok (.lload 7, 2) := by decide +kernel
theorem dX6_askAll_60 : decode cX6_askAll 60 = .ok (.lsub, 1) := by decide +kernel
theorem dX6_askAll_61 : decode cX6_askAll 61 = .ok (.lstore 11, 2) := by decide +kernel
theorem dX6_askAll_63 : decode cX6_askAll 63 = .ok (.aload_n 0, 1) := by decide +kernel
theorem dX6_askAll_64 : decode cX6_askAll 64 = .ok (.iload 9, 2) := by decide +kernel
theorem dX6_askAll_66 : decode cX6_askAll 66 = .ok (.lload 5, 2) := by decide +kernel
theorem dX6_askAll_68 : decode cX6_askAll 68 = .ok (.lload 11, 2) := by decide +kernel
theorem dX6_askAll_70 : decode cX6_askAll 70 = .ok (.lload 7, 2) := by decide +kernel
theorem dX6_askAll_72 : decode cX6_askAll 72 = .ok (.invokevirtual 147, 3) := by decide +kernel
theorem dX6_askAll_75 : decode cX6_askAll 75 = .ok (.lload 7, 2) := by decide +kernel
theorem dX6_askAll_77 : decode cX6_askAll 77 = .ok (.aload_n 0, 1) := by decide +kernel
theorem dX6_askAll_78 : decode cX6_askAll 78 = .ok (.iload 9, 2) := by decide +kernel
theorem dX6_askAll_80 : decode cX6_askAll 80 = .ok (.iload_n 1, 1) := by decide +kernel
theorem dX6_askAll_81 : decode cX6_askAll 81 = .ok (.iload 4, 2) := by decide +kernel
theorem dX6_askAll_83 : decode cX6_askAll 83 = .ok (.lload 11, 2) := by decide +kernel
theorem dX6_askAll_85 : decode cX6_askAll 85 = .ok (.invokevirtual 207, 3) := by decide +kernel
theorem dX6_askAll_88 : decode cX6_askAll 88 = .ok (.i2l, 1) := by decide +kernel
theorem dX6_askAll_89 : decode cX6_askAll 89 = .ok (.ladd, 1) := by decide +kernel
theorem dX6_askAll_90 : decode cX6_askAll 90 = .ok (.lstore 7, 2) := by decide +kernel
theorem dX6_askAll_92 : decode cX6_askAll 92 = .ok (.lload 5, 2) := by decide +kernel
theorem dX6_askAll_94 : decode cX6_askAll 94 = .ok (.iload 10, 2) := by decide +kernel
theorem dX6_askAll_96 : decode cX6_askAll 96 = .ok (.i2l, 1) := by decide +kernel
theorem dX6_askAll_97 : decode cX6_askAll 97 = .ok (.lsub, 1) := by decide +kernel
theorem dX6_askAll_98 : decode cX6_askAll 98 = .ok (.lstore 5, 2) := by decide +kernel
theorem dX6_askAll_100 : decode cX6_askAll 100 = .ok (.aload_n 0, 1) := by decide +kernel
theorem dX6_askAll_101 : decode cX6_askAll 101 = .ok (.iload 9, 2) := by decide +kernel
theorem dX6_askAll_103 : decode cX6_askAll 103 = .ok (.iload_n 1, 1) := by decide +kernel
theorem dX6_askAll_104 : decode cX6_askAll 104 = .ok (.invokevirtual 195, 3) := by decide +kernel
theorem dX6_askAll_107 : decode cX6_askAll 107 = .ok (.ifCond .eq 19, 3) := by decide +kernel
theorem dX6_askAll_110 : decode cX6_askAll 110 = .ok (.lload 5, 2) := by decide +kernel
theorem dX6_askAll_112 : decode cX6_askAll 112 = .ok (.aload_n 0, 1) := by decide +kernel
theorem dX6_askAll_113 : decode cX6_askAll 113 = .ok (.getfield 65, 3) := by decide +kernel
theorem dX6_askAll_116 : decode cX6_askAll 116 = .ok (.iload 9, 2) := by decide +kernel
theorem dX6_askAll_118 : decode cX6_askAll 118 = .ok (.iconst 3, 1) := by decide +kernel
theorem dX6_askAll_119 : decode cX6_askAll 119 = .ok (.invokevirtual 139, 3) := by decide +kernel
theorem dX6_askAll_122 : decode cX6_askAll 122 = .ok (.i2l, 1) := by decide +kernel
theorem dX6_askAll_123 : decode cX6_askAll 123 = .ok (.ladd, 1) := by decide +kernel
theorem dX6_askAll_124 : decode cX6_askAll 124 = .ok (.lstore 5, 2) := by decide +kernel
theorem dX6_askAll_126 : decode cX6_askAll 126 = .ok (.iinc 9 1, 3) := by decide +kernel
theorem dX6_askAll_129 : decode cX6_askAll 129 = .ok (.goto (-106), 3) := by decide +kernel
theorem dX6_askAll_132 : decode cX6_askAll 132 = .ok (.lload 7, 2) := by decide +kernel
theorem dX6_askAll_134 : decode cX6_askAll 134 = .ok (.lreturn, 1) := by decide +kernel
set_option maxRecDepth 20000 in
theorem ggX6_askDebt_X6_textOf : GoodIn wsX6_askDebt wsX6_textOf := goodIn_r _ [12, 13, 14, 121, 122, 123, 124, 125, 126, 127, 128, 129, 130, 131, 132, 133, 134, 135, 136, 137, 138] (by decide +kernel) (by decide +kernel)
set_option maxRecDepth 20000 in
theorem gX6_askDebt_X6_textOf : GoodIn wsX6_askDebt (wsV RX6 113 RX6 yX6_textOf wsX6_textOf) := goodIn_app (goodIn_of _ (by decide +kernel)) ggX6_askDebt_X6_textOf
set_option maxRecDepth 20000 in
theorem ggX6_askDebt_X5_firstHeld : GoodIn wsX6_askDebt wsX5_firstHeld := goodIn_r _ [18, 19, 20, 21, 16, 22, 23, 24, 25, 26, 27, 28, 29, 30, 31, 32, 33, 34, 35, 36, 37, 38, 39, 40, 41, 42, 43, 44, 45, 46, 47, 48, 49, 143, 144, 145, 146, 147, 148, 149] (by decide +kernel) (by decide +kernel)
set_option maxRecDepth 20000 in
theorem gX6_askDebt_X5_firstHeld_n151 : GoodIn wsX6_askDebt (wsX5_firstHeld) := ggX6_askDebt_X5_firstHeld
set_option maxRecDepth 20000 in
theorem ggX6_askDebt_X4_actOf : GoodIn wsX6_askDebt wsX4_actOf := goodIn_r _ [52, 53, 143, 144, 145, 146] (by decide +kernel) (by decide +kernel)
set_option maxRecDepth 20000 in
theorem gX6_askDebt_X4_actOf_n211 : GoodIn wsX6_askDebt (wsX4_actOf) := ggX6_askDebt_X4_actOf
set_option maxRecDepth 20000 in
theorem ggX6_askDebt_X4_shareOf : GoodIn wsX6_askDebt wsX4_shareOf := goodIn_r _ [56, 57, 143, 144, 145, 146] (by decide +kernel) (by decide +kernel)
set_option maxRecDepth 20000 in
theorem gX6_askDebt_X4_shareOf_n214 : GoodIn wsX6_askDebt (wsX4_shareOf) := ggX6_askDebt_X4_shareOf
set_option maxRecDepth 20000 in
theorem ggX6_askDebt_X2_get : GoodIn wsX6_askDebt wsX2_get := goodIn_r _ [61, 62, 63, 64, 65, 66, 59, 67, 68, 139, 140, 141, 142] (by decide +kernel) (by decide +kernel)
set_option maxRecDepth 20000 in
theorem gX6_askDebt_X2_get_n139 : GoodIn wsX6_askDebt (wsX2_get) := ggX6_askDebt_X2_get
set_option maxRecDepth 20000 in
theorem ggX6_askDebt_X6_splitStick : GoodIn wsX6_askDebt wsX6_splitStick := goodIn_r _ [72, 73, 74, 59, 75, 76, 68, 63, 62, 77, 78, 79, 80, 81, 82, 83, 84, 85, 86, 87, 88, 89, 90, 91, 92, 93, 94, 5, 95, 96, 97, 98, 99, 100, 101, 102, 64, 65, 66, 67, 121, 122, 123, 124, 125, 126, 127, 128, 129, 130, 131, 132, 133, 134, 135, 136, 137, 138, 139, 140, 141, 142] (by decide +kernel) (by decide +kernel)
set_option maxRecDepth 20000 in
theorem gX6_askDebt_X6_splitStick : GoodIn wsX6_askDebt (wsV RX6 223 RX6 yX6_splitStick wsX6_splitStick) := goodIn_app (goodIn_of _ (by decide +kernel)) ggX6_askDebt_X6_splitStick
set_option maxRecDepth 20000 in
theorem ggX6_askDebt_X6_writeLine : GoodIn wsX6_askDebt wsX6_writeLine := goodIn_r _ [106, 7, 107, 74, 59, 75, 76, 68, 63, 62, 77, 78, 79, 80, 81, 82, 83, 84, 85, 86, 87, 88, 89, 90, 91, 92, 93, 94, 5, 95, 96, 97, 98, 99, 100, 101, 102, 64, 65, 66, 67, 121, 122, 123, 124, 125, 126, 127, 128, 129, 130, 131, 132, 133, 134, 135, 136, 137, 138, 139, 140, 141, 142] (by decide +kernel) (by decide +kernel)
set_option maxRecDepth 20000 in
theorem gX6_askDebt_X6_writeLine : GoodIn wsX6_askDebt (wsV RX6 226 RX6 yX6_writeLine wsX6_writeLine) := goodIn_app (goodIn_of _ (by decide +kernel)) ggX6_askDebt_X6_writeLine
set_option maxRecDepth 20000 in
theorem ggX6_askDebt_X2_set : GoodIn wsX6_askDebt wsX2_set := goodIn_r _ [102, 62, 63, 64, 65, 66, 59, 67, 68, 139, 140, 141, 142] (by decide +kernel) (by decide +kernel)
set_option maxRecDepth 20000 in
theorem gX6_askDebt_X2_set_n127 : GoodIn wsX6_askDebt (wsX2_set) := ggX6_askDebt_X2_set
set_option maxRecDepth 20000 in
theorem ggX6_askDebt_X6_doAct : GoodIn wsX6_askDebt wsX6_doAct := goodIn_r _ [111, 2, 112, 113, 58, 59, 60, 61, 62, 63, 64, 65, 66, 67, 68, 100, 101, 102, 114, 115, 116, 11, 117, 118, 119, 120, 121, 122, 123, 124, 125, 126, 127, 128, 129, 130, 131, 132, 133, 134, 135, 136, 137, 138, 139, 140, 141, 142] (by decide +kernel) (by decide +kernel)
set_option maxRecDepth 20000 in
theorem gX6_askDebt_X6_doAct : GoodIn wsX6_askDebt (wsV RX6 230 RX6 yX6_doAct wsX6_doAct) := goodIn_app (goodIn_of _ (by decide +kernel)) ggX6_askDebt_X6_doAct
theorem dX6_askDebt_0 : decode cX6_askDebt 0 = .ok (.aload_n 0, 1) := by decide +kernel
theorem dX6_askDebt_1 : decode cX6_askDebt 1 = .ok (.iload_n 3, 1) := by decide +kernel
theorem dX6_askDebt_2 : decode cX6_askDebt 2 = .ok (.invokevirtual 113, 3) := by decide +kernel
theorem dX6_askDebt_5 : decode cX6_askDebt 5 = .ok (.astore 6, 2) := by decide +kernel
theorem dX6_askDebt_7 : decode cX6_askDebt 7 = .ok (.aload 6, 2) := by decide +kernel
theorem dX6_askDebt_9 : decode cX6_askDebt 9 = .ok (.ifnonnull 7, 3) := by decide +kernel
theorem dX6_askDebt_12 : decode cX6_askDebt 12 = .ok (.iconst (-1), 1) := by decide +kernel
theorem dX6_askDebt_13 : decode cX6_askDebt 13 = .ok (.goto 12, 3) := by decide +kernel
theorem dX6_askDebt_16 : decode cX6_askDebt 16 = .ok (.aload_n 0, 1) := by decide +kernel
theorem dX6_askDebt_17 : decode cX6_askDebt 17 = .ok (.getfield 28, 3) := by decide +kernel
theorem dX6_askDebt_20 : decode cX6_askDebt 20 = .ok (.aload 6, 2) := by decide +kernel
theorem dX6_askDebt_22 : decode cX6_askDebt 22 = .ok (.invokevirtual 151, 3) := by decide +kernel
theorem dX6_askDebt_25 : decode cX6_askDebt 25 = .ok (.istore 7, 2) := by decide +kernel
theorem dX6_askDebt_27 : decode cX6_askDebt 27 = .ok (.aload 6, 2) := by decide +kernel
theorem dX6_askDebt_29 : decode cX6_askDebt 29 = .ok (.ifnonnull 7, 3) := by decide +kernel
theorem dX6_askDebt_32 : decode cX6_askDebt 32 = .ok (.iconst 2, 1) := by decide +kernel
theorem dX6_askDebt_33 : decode cX6_askDebt 33 = .ok (.goto 10, 3) := by decide +kernel
theorem dX6_askDebt_36 : decode cX6_askDebt 36 = .ok (.aload 6, 2) := by decide +kernel
theorem dX6_askDebt_38 : decode cX6_askDebt 38 = .ok (.iload 7, 2) := by decide +kernel
theorem dX6_askDebt_40 : decode cX6_askDebt 40 = .ok (.invokevirtual 211, 3) := by decide +kernel
theorem dX6_askDebt_43 : decode cX6_askDebt 43 = .ok (.istore 8, 2) := by decide +kernel
theorem dX6_askDebt_45 : decode cX6_askDebt 45 = .ok (.aload 6, 2) := by decide +kernel
theorem dX6_askDebt_47 : decode cX6_askDebt 47 = .ok (.ifnonnull 7, 3) := by decide +kernel
theorem dX6_askDebt_50 : decode cX6_askDebt 50 = .ok (.iconst 0, 1) := by decide +kernel
theorem dX6_askDebt_51 : decode cX6_askDebt 51 = .ok (.goto 10, 3) := by decide +kernel
theorem dX6_askDebt_54 : decode cX6_askDebt 54 = .ok (.aload 6, 2) := by decide +kernel
theorem dX6_askDebt_56 : decode cX6_askDebt 56 = .ok (.iload 7, 2) := by decide +kernel
theorem dX6_askDebt_58 : decode cX6_askDebt 58 = .ok (.invokevirtual 214, 3) := by decide +kernel
theorem dX6_askDebt_61 : decode cX6_askDebt 61 = .ok (.istore 9, 2) := by decide +kernel
theorem dX6_askDebt_63 : decode cX6_askDebt 63 = .ok (.aload_n 0, 1) := by decide +kernel
theorem dX6_askDebt_64 : decode cX6_askDebt 64 = .ok (.getfield 65, 3) := by decide +kernel
theorem dX6_askDebt_67 : decode cX6_askDebt 67 = .ok (.iload_n 1, 1) := by decide +kernel
theorem dX6_askDebt_68 : decode cX6_askDebt 68 = .ok (.iconst 3, 1) := by decide +kernel
theorem dX6_askDebt_69 : decode cX6_askDebt 69 = .ok (.invokevirtual 139, 3) := by decide +kernel
theorem dX6_askDebt_72 : decode cX6_askDebt 72 = .ok (.iload 9, 2) := by decide +kernel
theorem dX6_askDebt_74 : decode cX6_askDebt 74 = .ok (.imul, 1) := by decide +kernel
theorem dX6_askDebt_75 : decode cX6_askDebt 75 = .ok (.bipush 100, 2) := by decide +kernel
theorem dX6_askDebt_77 : decode cX6_askDebt 77 = .ok (.idiv, 1) := by decide +kernel
theorem dX6_askDebt_78 : decode cX6_askDebt 78 = .ok (.i2l, 1) := by decide +kernel
theorem dX6_askDebt_79 : decode cX6_askDebt 79 = .ok (.lload 4, 2) := by decide +kernel
theorem dX6_askDebt_81 : decode cX6_askDebt 81 = .ok (.invokestatic 217, 3) := by decide +kernel
theorem dX6_askDebt_84 : decode cX6_askDebt 84 = .ok (.l2i, 1) := by decide +kernel
theorem dX6_askDebt_85 : decode cX6_askDebt 85 = .ok (.istore 10, 2) := by decide +kernel
theorem dX6_askDebt_87 : decode cX6_askDebt 87 = .ok (.iload 10, 2) := by decide +kernel
theorem dX6_askDebt_89 : decode cX6_askDebt 89 = .ok (.ifCond .le 12, 3) := by decide +kernel
theorem dX6_askDebt_92 : decode cX6_askDebt 92 = .ok (.aload_n 0, 1) := by decide +kernel
theorem dX6_askDebt_93 : decode cX6_askDebt 93 = .ok (.iload 10, 2) := by decide +kernel
theorem dX6_askDebt_95 : decode cX6_askDebt 95 = .ok (.invokevirtual 223, 3) := by decide +kernel
theorem dX6_askDebt_98 : decode cX6_askDebt 98 = .ok (.goto 4, 3) := by decide +kernel
theorem dX6_askDebt_101 : decode cX6_askDebt 101 = .ok (.iconst (-1), 1) := by decide +kernel
theorem dX6_askDebt_102 : decode cX6_askDebt 102 = .ok (.istore 11, 2) := by decide +kernel
theorem dX6_askDebt_104 : decode cX6_askDebt 104 = .ok (.aload_n 0, 1) := by decide +kernel
theorem dX6_askDebt_105 : decode cX6_askDebt 105 = .ok (.iload_n 2, 1) := by decide +kernel
theorem dX6_askDebt_106 : decode cX6_askDebt 106 = .ok (.iload_n 1, 1) := by decide +kernel
theorem dX6_askDebt_107 : decode cX6_askDebt 107 = .ok (.iload 8, 2) := by decide +kernel
theorem dX6_askDebt_109 : decode cX6_askDebt 109 = .ok (.iload 10, 2) := by decide +kernel
theorem dX6_askDebt_111 : decode cX6_askDebt 111 = .ok (.invokevirtual 226, 3) := by decide +kernel
theorem dX6_askDebt_114 : decode cX6_askDebt 114 = .ok (.aload_n 0, 1) := by decide +kernel
theorem dX6_askDebt_115 : decode cX6_askDebt 115 = .ok (.getfield 68, 3) := by decide +kernel
theorem dX6_askDebt_118 : decode cX6_askDebt 118 = .ok (.getfield 155, 3) := by decide +kernel
theorem dX6_askDebt_121 : decode cX6_askDebt 121 = .ok (.iconst 1, 1) := by decide +kernel
theorem dX6_askDebt_122 : decode cX6_askDebt 122 = .ok (.isub, 1) := by decide +kernel
theorem dX6_askDebt_123 : decode cX6_askDebt 123 = .ok (.istore 12, 2) := by decide +kernel
theorem dX6_askDebt_125 : decode cX6_askDebt 125 = .ok (.aload_n 0, 1) := by decide +kernel
theorem dX6_askDebt_126 : decode cX6_askDebt 126 = .ok (.getfield 68, 3) := by decide +kernel
theorem dX6_askDebt_129 : decode cX6_askDebt 129 = .ok (.iload 12, 2) := by decide +kernel
theorem dX6_askDebt_131 : decode cX6_askDebt 131 = .ok (.iconst 5, 1) := by decide +kernel
theorem dX6_askDebt_132 : decode cX6_askDebt 132 = .ok (.iload 7, 2) := by decide +kernel
theorem dX6_askDebt_134 : decode cX6_askDebt 134 = .ok (.invokevirtual 127, 3) := by decide +kernel
theorem dX6_askDebt_137 : decode cX6_askDebt 137 = .ok (.aload_n 0, 1) := by decide +kernel
theorem dX6_askDebt_138 : decode cX6_askDebt 138 = .ok (.getfield 68, 3) := by decide +kernel
theorem dX6_askDebt_141 : decode cX6_askDebt 141 = .ok (.iload 12, 2) := by decide +kernel
theorem dX6_askDebt_143 : decode cX6_askDebt 143 = .ok (.bipush 6, 2) := by decide +kernel
theorem dX6_askDebt_145 : decode cX6_askDebt 145 = .ok (.iload_n 3, 1) := by decide +kernel
theorem dX6_askDebt_146 : decode cX6_askDebt 146 = .ok (.invokevirtual 127, 3) := by decide +kernel
theorem dX6_askDebt_149 : decode cX6_askDebt 149 = .ok (.aload_n 0, 1) := by decide +kernel
theorem dX6_askDebt_150 : decode cX6_askDebt 150 = .ok (.getfield 68, 3) := by decide +kernel
theorem dX6_askDebt_153 : decode cX6_askDebt 153 = .ok (.iload 12, 2) := by decide +kernel
theorem dX6_askDebt_155 : decode cX6_askDebt 155 = .ok (.bipush 7, 2) := by decide +kernel
theorem dX6_askDebt_157 : decode cX6_askDebt 157 = .ok (.iload 11, 2) := by decide +kernel
theorem dX6_askDebt_159 : decode cX6_askDebt 159 = .ok (.invokevirtual 127, 3) := by decide +kernel
theorem dX6_askDebt_162 : decode cX6_askDebt 162 = .ok (.aload_n 0, 1) := by decide +kernel
theorem dX6_askDebt_163 : decode cX6_askDebt 163 = .ok (.iload 8, 2) := by decide +kernel
theorem dX6_askDebt_165 : decode cX6_askDebt 165 = .ok (.iload_n 1, 1) := by decide +kernel
theorem dX6_askDebt_166 : decode cX6_askDebt 166 = .ok (.iload_n 2, 1) := by decide +kernel
theorem dX6_askDebt_167 : decode cX6_askDebt 167 = .ok (.iload 10, 2) := by decide +kernel
theorem dX6_askDebt_169 : decode cX6_askDebt 169 = .ok (.invokevirtual 230, 3) := by decide +kernel
theorem dX6_askDebt_172 : decode cX6_askDebt 172 = .ok (.iload 10, 2) := by decide +kernel
theorem dX6_askDebt_174 : decode cX6_askDebt 174 = .ok (.ireturn, 1) := by decide +kernel
set_option maxRecDepth 20000 in
theorem ggX6_doAct_X2_get : GoodIn wsX6_doAct wsX2_get := goodIn_r _ [7, 8, 9, 10, 11, 12, 5, 13, 14, 44, 45, 46, 47] (by decide +kernel) (by decide +kernel)
set_option maxRecDepth 20000 in
theorem gX6_doAct_X2_get_n139 : GoodIn wsX6_doAct (wsX2_get) := ggX6_doAct_X2_get
set_option maxRecDepth 20000 in
theorem ggX6_doAct_X2_set : GoodIn wsX6_doAct wsX2_set := goodIn_r _ [17, 8, 9, 10, 11, 12, 5, 13, 14, 44, 45, 46, 47] (by decide +kernel) (by decide +kernel)
set_option maxRecDepth 20000 in
theorem gX6_doAct_X2_set_n127 : GoodIn wsX6_doAct (wsX2_set) := ggX6_doAct_X2_set
set_option maxRecDepth 20000 in
theorem ggX6_doAct_X6_moveDebt : GoodIn wsX6_doAct wsX6_moveDebt := goodIn_r _ [22, 1, 15, 5, 16, 17, 8, 9, 10, 11, 12, 13, 14, 4, 6, 7, 26, 27, 28, 29, 30, 31, 32, 33, 34, 35, 36, 37, 38, 39, 40, 41, 42, 43, 44, 45, 46, 47] (by decide +kernel) (by decide +kernel)
set_option maxRecDepth 20000 in
theorem gX6_doAct_X6_moveDebt : GoodIn wsX6_doAct (wsV RX6 199 RX6 yX6_moveDebt wsX6_moveDebt) := goodIn_app (goodIn_of _ (by decide +kernel)) ggX6_doAct_X6_moveDebt
set_option maxRecDepth 20000 in
theorem ggX6_doAct_X6_isPerson : GoodIn wsX6_doAct wsX6_isPerson := goodIn_r _ [25] (by decide +kernel) (by decide +kernel)
set_option maxRecDepth 20000 in
theorem gX6_doAct_X6_isPerson : GoodIn wsX6_doAct (va_wsS RX6 166 yX6_isPerson wsX6_isPerson) := goodIn_app (goodIn_of _ (by decide +kernel)) ggX6_doAct_X6_isPerson
theorem dX6_doAct_0 : decode cX6_doAct 0 = .ok (.aload_n 0, 1) := by decide +kernel
theorem dX6_doAct_1 : decode cX6_doAct 1 = .ok (.getfield 65, 3) := by decide +kernel
theorem dX6_doAct_4 : decode cX6_doAct 4 = .ok (.iload_n 2, 1) := by decide +kernel
theorem dX6_doAct_5 : decode cX6_doAct 5 = .ok (.iconst 3, 1) := by decide +kernel
theorem dX6_doAct_6 : decode cX6_doAct 6 = .ok (.invokevirtual 139, 3) := by decide +kernel
theorem dX6_doAct_9 : decode cX6_doAct 9 = .ok (.istore 5, 2) := by decide +kernel
theorem dX6_doAct_11 : decode cX6_doAct 11 = .ok (.aload_n 0, 1) := by decide +kernel
theorem dX6_doAct_12 : decode cX6_doAct 12 = .ok (.getfield 65, 3) := by decide +kernel
theorem dX6_doAct_15 : decode cX6_doAct 15 = .ok (.iload_n 2, 1) := by decide +kernel
theorem dX6_doAct_16 : decode cX6_doAct 16 = .ok (.iconst 5, 1) := by decide +kernel
theorem dX6_doAct_17 : decode cX6_doAct 17 = .ok (.invokevirtual 139, 3) := by decide +kernel
theorem dX6_doAct_20 : decode cX6_doAct 20 = .ok (.istore 6, 2) := by decide +kernel
theorem dX6_doAct_22 : decode cX6_doAct 22 = .ok (.aload_n 0, 1) := by decide +kernel
theorem dX6_doAct_23 : decode cX6_doAct 23 = .ok (.dup, 1) := by decide +kernel
theorem dX6_doAct_24 : decode cX6_doAct 24 = .ok (.getfield 233, 3) := by decide +kernel
theorem dX6_doAct_27 : decode cX6_doAct 27 = .ok (.iload 4, 2) := by decide +kernel
theorem dX6_doAct_29 : decode cX6_doAct 29 = .ok (.i2l, 1) := by decide +kernel
theorem dX6_doAct_30 : decode cX6_doAct 30 = .ok (.ladd, 1) := by decide +kernel
theorem dX6_doAct_31 : decode cX6_doAct 31 = .ok (.putfield 233, 3) := by decide +kernel
theorem dX6_doAct_34 : decode cX6_doAct 34 = .ok (.aload_n 0, 1) := by decide +kernel
theorem dX6_doAct_35 : decode cX6_doAct 35 = .ok (.getfield 65, 3) := by decide +kernel
theorem dX6_doAct_38 : decode cX6_doAct 38 = .ok (.iload_n 2, 1) := by decide +kernel
theorem dX6_doAct_39 : decode cX6_doAct 39 = .ok (.iconst 3, 1) := by decide +kernel
theorem dX6_doAct_40 : decode cX6_doAct 40 = .ok (.iload 5, 2) := by decide +kernel
theorem dX6_doAct_42 : decode cX6_doAct 42 = .ok (.iload 4, 2) := by decide +kernel
theorem dX6_doAct_44 : decode cX6_doAct 44 = .ok (.isub, 1) := by decide +kernel
theorem dX6_doAct_45 : decode cX6_doAct 45 = .ok (.invokevirtual 127, 3) := by decide +kernel
theorem dX6_doAct_48 : decode cX6_doAct 48 = .ok (.iload_n 1, 1) := by decide +kernel
theorem dX6_doAct_49 : decode cX6_doAct 49 = .ok (.iconst 3, 1) := by decide +kernel
theorem dX6_doAct_50 : decode cX6_doAct 50 = .ok (.if_icmp .ne 28, 3) := by decide +kernel
theorem dX6_doAct_53 : decode cX6_doAct 53 = .ok (.aload_n 0, 1) := by decide +kernel
theorem dX6_doAct_54 : decode cX6_doAct 54 = .ok (.getfield 65, 3) := by decide +kernel
theorem dX6_doAct_57 : decode cX6_doAct 57 = .ok (.iload_n 2, 1) := by decide +kernel
theorem dX6_doAct_58 : decode cX6_doAct 58 = .ok (.bipush 6, 2) := by decide +kernel
theorem dX6_doAct_60 : decode cX6_doAct 60 = .ok (.iload 5, 2) := by decide +kernel
theorem dX6_doAct_62 : decode cX6_doAct 62 = .ok (.invokevirtual 127, 3) := by decide +kernel
theorem dX6_doAct_65 : decode cX6_doAct 65 = .ok (.aload_n 0, 1) := by decide +kernel
theorem dX6_doAct_66 : decode cX6_doAct 66 = .ok (.getfield 65, 3) := by decide +kernel
theorem dX6_doAct_69 : decode cX6_doAct 69 = .ok (.iload_n 2, 1) := by decide +kernel
theorem dX6_doAct_70 : decode cX6_doAct 70 = .ok (.iconst 3, 1) := by decide +kernel
theorem dX6_doAct_71 : decode cX6_doAct 71 = .ok (.iconst 0, 1) := by decide +kernel
theorem dX6_doAct_72 : decode cX6_doAct 72 = .ok (.invokevirtual 127, 3) := by decide +kernel
theorem dX6_doAct_75 : decode cX6_doAct 75 = .ok (.goto 49, 3) := by decide +kernel
theorem dX6_doAct_78 : decode cX6_doAct 78 = .ok (.iload_n 1, 1) := by decide +kernel
theorem dX6_doAct_79 : decode cX6_doAct 79 = .ok (.iconst 4, 1) := by decide +kernel
theorem dX6_doAct_80 : decode cX6_doAct 80 = .ok (.if_icmp .ne 25, 3) := by decide +kernel
theorem dX6_doAct_83 : decode cX6_doAct 83 = .ok (.iload 6, 2) := by decide +kernel
theorem dX6_doAct_85 : decode cX6_doAct 85 = .ok (.iconst (-1), 1) := by decide +kernel
theorem dX6_doAct_86 : decode cX6_doAct 86 = .ok (.if_icmp .eq 19, 3) := by decide +kernel
theorem dX6_doAct_89 : decode cX6_doAct 89 = .ok (.iload 6, 2) := by decide +kernel
theorem dX6_doAct_91 : decode cX6_doAct 91 = .ok (.iload_n 3, 1) := by decide +kernel
theorem dX6_doAct_92 : decode cX6_doAct 92 = .ok (.if_icmp .eq 13, 3) := by decide +kernel
theorem dX6_doAct_95 : decode cX6_doAct 95 = .ok (.aload_n 0, 1) := by decide +kernel
theorem dX6_doAct_96 : decode cX6_doAct 96 = .ok (.iload_n 2, 1) := by decide +kernel
theorem dX6_doAct_97 : decode cX6_doAct 97 = .ok (.iload 6, 2) := by decide +kernel
theorem dX6_doAct_99 : decode cX6_doAct 99 = .ok (.invokevirtual 199, 3) := by decide +kernel
theorem dX6_doAct_102 : decode cX6_doAct 102 = .ok (.goto 22, 3) := by decide +kernel
theorem dX6_doAct_105 : decode cX6_doAct 105 = .ok (.iload_n 1, 1) := by decide +kernel
theorem dX6_doAct_106 : decode cX6_doAct 106 = .ok (.iconst 5, 1) := by decide +kernel
theorem dX6_doAct_107 : decode cX6_doAct 107 = .ok (.if_icmp .ne 17, 3) := by decide +kernel
theorem dX6_doAct_110 : decode cX6_doAct 110 = .ok (.iload_n 3, 1) := by decide +kernel
theorem dX6_doAct_111 : decode cX6_doAct 111 = .ok (.invokestatic 166, 3) := by decide +kernel
theorem dX6_doAct_114 : decode cX6_doAct 114 = .ok (.ifCond .eq 10, 3) := by decide +kernel
theorem dX6_doAct_117 : decode cX6_doAct 117 = .ok (.aload_n 0, 1) := by decide +kernel
theorem dX6_doAct_118 : decode cX6_doAct 118 = .ok (.getfield 51, 3) := by decide +kernel
theorem dX6_doAct_121 : decode cX6_doAct 121 = .ok (.iload_n 3, 1) := by decide +kernel
theorem dX6_doAct_122 : decode cX6_doAct 122 = .ok (.iconst 1, 1) := by decide +kernel
theorem dX6_doAct_123 : decode cX6_doAct 123 = .ok (.bastore, 1) := by decide +kernel
theorem dX6_doAct_124 : decode cX6_doAct 124 = .ok (.return_, 1) := by decide +kernel
set_option maxRecDepth 20000 in
theorem ggX6_splitStick_X2_add : GoodIn wsX6_splitStick wsX2_add := goodIn_r _ [5, 6, 7, 8, 9, 10, 11, 3, 12, 13, 14, 15, 16, 17, 18, 19, 20, 21, 22, 23, 24, 25, 26, 27, 28, 29, 30, 31, 32, 58, 59, 60, 61] (by decide +kernel) (by decide +kernel)
set_option maxRecDepth 20000 in
theorem gX6_splitStick_X2_add_n123 : GoodIn wsX6_splitStick (wsX2_add) := ggX6_splitStick_X2_add
set_option maxRecDepth 20000 in
theorem ggX6_splitStick_X2_set : GoodIn wsX6_splitStick wsX2_set := goodIn_r _ [35, 8, 7, 36, 37, 38, 3, 39, 6, 58, 59, 60, 61] (by decide +kernel) (by decide +kernel)
set_option maxRecDepth 20000 in
theorem gX6_splitStick_X2_set_n127 : GoodIn wsX6_splitStick (wsX2_set) := ggX6_splitStick_X2_set
theorem dX6_splitStick_0 : decode cX6_splitStick 0 = .ok (.aload_n 0, 1) := by decide +kernel
theorem dX6_splitStick_1 : decode cX6_splitStick 1 = .ok (.getfield 71, 3) := by decide +kernel
theorem dX6_splitStick_4 : decode cX6_splitStick 4 = .ok (.invokevirtual 123, 3) := by decide +kernel
theorem dX6_splitStick_7 : decode cX6_splitStick 7 = .ok (.istore_n 2, 1) := by decide +kernel
theorem dX6_splitStick_8 : decode cX6_splitStick 8 = .ok (.aload_n 0, 1) := by decide +kernel
theorem dX6_splitStick_9 : decode cX6_splitStick 9 = .ok (.getfield 71, 3) := by decide +kernel
theorem dX6_splitStick_12 : decode cX6_splitStick 12 = .ok (.iload_n 2, 1) := by decide +kernel
theorem dX6_splitStick_13 : decode cX6_splitStick 13 = .ok (.iconst 0, 1) := by decide +kernel
theorem dX6_splitStick_14 : decode cX6_splitStick 14 = .ok (.iload_n 1, 1) := by decide +kernel
theorem dX6_splitStick_15 : decode cX6_splitStick 15 = .ok (.invokevirtual 127, 3) := by decide +kernel
theorem dX6_splitStick_18 : decode cX6_splitStick 18 = .ok (.iload_n 2, 1) := by decide +kernel
theorem dX6_splitStick_19 : decode cX6_splitStick 19 = .ok (.ireturn, 1) := by decide +kernel
set_option maxRecDepth 20000 in
theorem ggX6_writeLine_X2_add : GoodIn wsX6_writeLine wsX2_add := goodIn_r _ [6, 7, 8, 9, 10, 11, 12, 4, 13, 14, 15, 16, 17, 18, 19, 20, 21, 22, 23, 24, 25, 26, 27, 28, 29, 30, 31, 32, 33, 59, 60, 61, 62] (by decide +kernel) (by decide +kernel)
set_option maxRecDepth 20000 in
theorem gX6_writeLine_X2_add_n123 : GoodIn wsX6_writeLine (wsX2_add) := ggX6_writeLine_X2_add
set_option maxRecDepth 20000 in
theorem ggX6_writeLine_X2_set : GoodIn wsX6_writeLine wsX2_set := goodIn_r _ [36, 9, 8, 37, 38, 39, 4, 40, 7, 59, 60, 61, 62] (by decide +kernel) (by decide +kernel)
set_option maxRecDepth 20000 in
theorem gX6_writeLine_X2_set_n127 : GoodIn wsX6_writeLine (wsX2_set) := ggX6_writeLine_X2_set
theorem dX6_writeLine_0 : decode cX6_writeLine 0 = .ok (.aload_n 0, 1) := by decide +kernel
theorem dX6_writeLine_1 : decode cX6_writeLine 1 = .ok (.getfield 68, 3) := by decide +kernel
theorem dX6_writeLine_4 : decode cX6_writeLine 4 = .ok (.invokevirtual 123, 3) := by decide +kernel
theorem dX6_writeLine_7 : decode cX6_writeLine 7 = .ok (.istore 5, 2) := by decide +kernel
theorem dX6_writeLine_9 : decode cX6_writeLine 9 = .ok (.aload_n 0, 1) := by decide +kernel
theorem dX6_writeLine_10 : decode cX6_writeLine 10 = .ok (.getfield 68, 3) := by decide +kernel
theorem dX6_writeLine_13 : decode cX6_writeLine 13 = .ok (.iload 5, 2) := by decide +kernel
theorem dX6_writeLine_15 : decode cX6_writeLine 15 = .ok (.iconst 0, 1) := by decide +kernel
theorem dX6_writeLine_16 : decode cX6_writeLine 16 = .ok (.aload_n 0, 1) := by decide +kernel
theorem dX6_writeLine_17 : decode cX6_writeLine 17 = .ok (.getfield 120, 3) := by decide +kernel
theorem dX6_writeLine_20 : decode cX6_writeLine 20 = .ok (.invokevirtual 127, 3) := by decide +kernel
theorem dX6_writeLine_23 : decode cX6_writeLine 23 = .ok (.aload_n 0, 1) := by decide +kernel
theorem dX6_writeLine_24 : decode cX6_writeLine 24 = .ok (.getfield 68, 3) := by decide +kernel
theorem dX6_writeLine_27 : decode cX6_writeLine 27 = .ok (.iload 5, 2) := by decide +kernel
theorem dX6_writeLine_29 : decode cX6_writeLine 29 = .ok (.iconst 1, 1) := by decide +kernel
theorem dX6_writeLine_30 : decode cX6_writeLine 30 = .ok (.iload_n 1, 1) := by decide +kernel
theorem dX6_writeLine_31 : decode cX6_writeLine 31 = .ok (.invokevirtual 127, 3) := by decide +kernel
theorem dX6_writeLine_34 : decode cX6_writeLine 34 = .ok (.aload_n 0, 1) := by decide +kernel
theorem dX6_writeLine_35 : decode cX6_writeLine 35 = .ok (.getfield 68, 3) := by decide +kernel
theorem dX6_writeLine_38 : decode cX6_writeLine 38 = .ok (.iload 5, 2) := by decide +kernel
theorem dX6_writeLine_40 : decode cX6_writeLine 40 = .ok (.iconst 2, 1) := by decide +kernel
theorem dX6_writeLine_41 : decode cX6_writeLine 41 = .ok (.iload_n 2, 1) := by decide +kernel
theorem dX6_writeLine_42 : decode cX6_writeLine 42 = .ok (.invokevirtual 127, 3) := by decide +kernel
theorem dX6_writeLine_45 : decode cX6_writeLine 45 = .ok (.aload_n 0, 1) := by decide +kernel
theorem dX6_writeLine_46 : decode cX6_writeLine 46 = .ok (.getfield 68, 3) := by decide +kernel
theorem dX6_writeLine_49 : decode cX6_writeLine 49 = .ok (.iload 5, 2) := by decide +kernel
theorem dX6_writeLine_51 : decode cX6_writeLine 51 = .ok (.iconst 3, 1) := by decide +kernel
theorem dX6_writeLine_52 : decode cX6_writeLine 52 = .ok (.iload_n 3, 1) := by decide +kernel
theorem dX6_writeLine_53 : decode cX6_writeLine 53 = .ok (.invokevirtual 127, 3) := by decide +kernel
theorem dX6_writeLine_56 : decode cX6_writeLine 56 = .ok (.aload_n 0, 1) := by decide +kernel
theorem dX6_writeLine_57 : decode cX6_writeLine 57 = .ok (.getfield 68, 3) := by decide +kernel
theorem dX6_writeLine_60 : decode cX6_writeLine 60 = .ok (.iload 5, 2) := by decide +kernel
theorem dX6_writeLine_62 : decode cX6_writeLine 62 = .ok (.iconst 4, 1) := by decide +kernel
theorem dX6_writeLine_63 : decode cX6_writeLine 63 = .ok (.iload 4, 2) := by decide +kernel
theorem dX6_writeLine_65 : decode cX6_writeLine 65 = .ok (.invokevirtual 127, 3) := by decide +kernel
theorem dX6_writeLine_68 : decode cX6_writeLine 68 = .ok (.return_, 1) := by decide +kernel
set_option maxRecDepth 20000 in
theorem ggX6_line_X2_has : GoodIn wsX6_line wsX2_has := goodIn_r _ [5, 6, 7, 31, 32, 33, 34] (by decide +kernel) (by decide +kernel)
set_option maxRecDepth 20000 in
theorem gX6_line_X2_has_n202 : GoodIn wsX6_line (wsX2_has) := ggX6_line_X2_has
set_option maxRecDepth 20000 in
theorem ggX6_line_X2_get : GoodIn wsX6_line wsX2_get := goodIn_r _ [10, 11, 7, 12, 2, 4, 3, 5, 6, 31, 32, 33, 34] (by decide +kernel) (by decide +kernel)
set_option maxRecDepth 20000 in
theorem gX6_line_X2_get_n139 : GoodIn wsX6_line (wsX2_get) := ggX6_line_X2_get
theorem dX6_line_0 : decode cX6_line 0 = .ok (.aload_n 0, 1) := by decide +kernel
theorem dX6_line_1 : decode cX6_line 1 = .ok (.getfield 68, 3) := by decide +kernel
theorem dX6_line_4 : decode cX6_line 4 = .ok (.iload_n 1, 1) := by decide +kernel
theorem dX6_line_5 : decode cX6_line 5 = .ok (.iload_n 2, 1) := by decide +kernel
theorem dX6_line_6 : decode cX6_line 6 = .ok (.invokevirtual 202, 3) := by decide +kernel
theorem dX6_line_9 : decode cX6_line 9 = .ok (.ifCond .eq 15, 3) := by decide +kernel
theorem dX6_line_12 : decode cX6_line 12 = .ok (.aload_n 0, 1) := by decide +kernel
theorem dX6_line_13 : decode cX6_line 13 = .ok (.getfield 68, 3) := by decide +kernel
theorem dX6_line_16 : decode cX6_line 16 = .ok (.iload_n 1, 1) := by decide +kernel
theorem dX6_line_17 : decode cX6_line 17 = .ok (.iload_n 2, 1) := by decide +kernel
theorem dX6_line_18 : decode cX6_line 18 = .ok (.invokevirtual 139, 3) := by decide +kernel
theorem dX6_line_21 : decode cX6_line 21 = .ok (.goto 5, 3) := by decide +kernel
theorem dX6_line_24 : decode cX6_line 24 = .ok (.bipush (-2), 2) := by decide +kernel
theorem dX6_line_26 : decode cX6_line 26 = .ok (.ireturn, 1) := by decide +kernel
set_option maxRecDepth 20000 in
theorem ggX6_as_X2_has : GoodIn wsX6_as wsX2_has := goodIn_r _ [7, 8, 9, 33, 34, 35, 36] (by decide +kernel) (by decide +kernel)
set_option maxRecDepth 20000 in
theorem gX6_as_X2_has_n202 : GoodIn wsX6_as (wsX2_has) := ggX6_as_X2_has
set_option maxRecDepth 20000 in
theorem ggX6_as_X2_get : GoodIn wsX6_as wsX2_get := goodIn_r _ [12, 13, 9, 14, 4, 6, 5, 7, 8, 33, 34, 35, 36] (by decide +kernel) (by decide +kernel)
set_option maxRecDepth 20000 in
theorem gX6_as_X2_get_n139 : GoodIn wsX6_as (wsX2_get) := ggX6_as_X2_get
theorem dX6_as_0 : decode cX6_as 0 = .ok (.aload_n 0, 1) := by decide +kernel
theorem dX6_as_1 : decode cX6_as 1 = .ok (.getfield 65, 3) := by decide +kernel
theorem dX6_as_4 : decode cX6_as 4 = .ok (.iload_n 1, 1) := by decide +kernel
theorem dX6_as_5 : decode cX6_as 5 = .ok (.iconst 4, 1) := by decide +kernel
theorem dX6_as_6 : decode cX6_as 6 = .ok (.invokevirtual 202, 3) := by decide +kernel
theorem dX6_as_9 : decode cX6_as 9 = .ok (.ifCond .eq 15, 3) := by decide +kernel
theorem dX6_as_12 : decode cX6_as 12 = .ok (.iload_n 2, 1) := by decide +kernel
theorem dX6_as_13 : decode cX6_as 13 = .ok (.ifCond .lt 11, 3) := by decide +kernel
theorem dX6_as_16 : decode cX6_as 16 = .ok (.iload_n 2, 1) := by decide +kernel
theorem dX6_as_17 : decode cX6_as 17 = .ok (.aload_n 0, 1) := by decide +kernel
theorem dX6_as_18 : decode cX6_as 18 = .ok (.getfield 120, 3) := by decide +kernel
theorem dX6_as_21 : decode cX6_as 21 = .ok (.if_icmp .le 6, 3) := by decide +kernel
theorem dX6_as_24 : decode cX6_as 24 = .ok (.bipush (-2), 2) := by decide +kernel
theorem dX6_as_26 : decode cX6_as 26 = .ok (.ireturn, 1) := by decide +kernel
theorem dX6_as_27 : decode cX6_as 27 = .ok (.aload_n 0, 1) := by decide +kernel
theorem dX6_as_28 : decode cX6_as 28 = .ok (.getfield 65, 3) := by decide +kernel
theorem dX6_as_31 : decode cX6_as 31 = .ok (.iload_n 1, 1) := by decide +kernel
theorem dX6_as_32 : decode cX6_as 32 = .ok (.iconst 4, 1) := by decide +kernel
theorem dX6_as_33 : decode cX6_as 33 = .ok (.invokevirtual 139, 3) := by decide +kernel
theorem dX6_as_36 : decode cX6_as 36 = .ok (.iload_n 2, 1) := by decide +kernel
theorem dX6_as_37 : decode cX6_as 37 = .ok (.if_icmp .le 5, 3) := by decide +kernel
theorem dX6_as_40 : decode cX6_as 40 = .ok (.iconst (-1), 1) := by decide +kernel
theorem dX6_as_41 : decode cX6_as 41 = .ok (.ireturn, 1) := by decide +kernel
theorem dX6_as_42 : decode cX6_as 42 = .ok (.aload_n 0, 1) := by decide +kernel
theorem dX6_as_43 : decode cX6_as 43 = .ok (.getfield 65, 3) := by decide +kernel
theorem dX6_as_46 : decode cX6_as 46 = .ok (.iload_n 1, 1) := by decide +kernel
theorem dX6_as_47 : decode cX6_as 47 = .ok (.iconst 2, 1) := by decide +kernel
theorem dX6_as_48 : decode cX6_as 48 = .ok (.invokevirtual 139, 3) := by decide +kernel
theorem dX6_as_51 : decode cX6_as 51 = .ok (.istore_n 3, 1) := by decide +kernel
theorem dX6_as_52 : decode cX6_as 52 = .ok (.iconst 0, 1) := by decide +kernel
theorem dX6_as_53 : decode cX6_as 53 = .ok (.istore 4, 2) := by decide +kernel
theorem dX6_as_55 : decode cX6_as 55 = .ok (.iload 4, 2) := by decide +kernel
theorem dX6_as_57 : decode cX6_as 57 = .ok (.aload_n 0, 1) := by decide +kernel
theorem dX6_as_58 : decode cX6_as 58 = .ok (.getfield 68, 3) := by decide +kernel
theorem dX6_as_61 : decode cX6_as 61 = .ok (.getfield 155, 3) := by decide +kernel
theorem dX6_as_64 : decode cX6_as 64 = .ok (.if_icmp .ge 68, 3) := by decide +kernel
theorem dX6_as_67 : decode cX6_as 67 = .ok (.aload_n 0, 1) := by decide +kernel
theorem dX6_as_68 : decode cX6_as 68 = .ok (.getfield 68, 3) := by decide +kernel
theorem dX6_as_71 : decode cX6_as 71 = .ok (.iload 4, 2) := by decide +kernel
theorem dX6_as_73 : decode cX6_as 73 = .ok (.iconst 0, 1) := by decide +kernel
theorem dX6_as_74 : decode cX6_as 74 = .ok (.invokevirtual 139, 3) := by decide +kernel
theorem dX6_as_77 : decode cX6_as 77 = .ok (.iload_n 2, 1) := by decide +kernel
theorem dX6_as_78 : decode cX6_as 78 = .ok (.if_icmp .gt 54, 3) := by decide +kernel
theorem dX6_as_81 : decode cX6_as 81 = .ok (.aload_n 0, 1) := by decide +kernel
theorem dX6_as_82 : decode cX6_as 82 = .ok (.getfield 68, 3) := by decide +kernel
theorem dX6_as_85 : decode cX6_as 85 = .ok (.iload 4, 2) := by decide +kernel
theorem dX6_as_87 : decode cX6_as 87 = .ok (.iconst 2, 1) := by decide +kernel
theorem dX6_as_88 : decode cX6_as 88 = .ok (.invokevirtual 139, 3) := by decide +kernel
theorem dX6_as_91 : decode cX6_as 91 = .ok (.iload_n 1, 1) := by decide +kernel
theorem dX6_as_92 : decode cX6_as 92 = .ok (.if_icmp .ne 34, 3) := by decide +kernel
theorem dX6_as_95 : decode cX6_as 95 = .ok (.aload_n 0, 1) := by decide +kernel
theorem dX6_as_96 : decode cX6_as 96 = .ok (.getfield 68, 3) := by decide +kernel
theorem dX6_as_99 : decode cX6_as 99 = .ok (.iload 4, 2) := by decide +kernel
theorem dX6_as_101 : decode cX6_as 101 = .ok (.iconst 3, 1) := by decide +kernel
theorem dX6_as_102 : decode cX6_as 102 = .ok (.invokevirtual 139, 3) := by decide +kernel
theorem dX6_as_105 : decode cX6_as 105 = .ok (.iconst 3, 1) := by decide +kernel
theorem dX6_as_106 : decode cX6_as 106 = .ok (.if_icmp .ne 7, 3) := by decide +kernel
theorem dX6_as_109 : decode cX6_as 109 = .ok (.iconst 0, 1) := by decide +kernel
theorem dX6_as_110 : decode cX6_as 110 = .ok (.goto 15, 3) := by decide +kernel
theorem dX6_as_113 : decode cX6_as 113 = .ok (.iload_n 3, 1) := by decide +kernel
theorem dX6_as_114 : decode cX6_as 114 = .ok (.aload_n 0, 1) := by decide +kernel
theorem dX6_as_115 : decode cX6_as 115 = .ok (.getfield 68, 3) := by decide +kernel
theorem dX6_as_118 : decode cX6_as 118 = .ok (.iload 4, 2) := by decide +kernel
theorem dX6_as_120 : decode cX6_as 120 = .ok (.iconst 4, 1) := by decide +kernel
theorem dX6_as_121 : decode cX6_as 121 = .ok (.invokevirtual 139, 3) := by decide +kernel
theorem dX6_as_124 : decode cX6_as 124 = .ok (.isub, 1) := by decide +kernel
theorem dX6_as_125 : decode cX6_as 125 = .ok (.istore_n 3, 1) := by decide +kernel
theorem dX6_as_126 : decode cX6_as 126 = .ok (.iinc 4 1, 3) := by decide +kernel
theorem dX6_as_129 : decode cX6_as 129 = .ok (.goto (-74), 3) := by decide +kernel
theorem dX6_as_132 : decode cX6_as 132 = .ok (.iload_n 3, 1) := by decide +kernel
theorem dX6_as_133 : decode cX6_as 133 = .ok (.ireturn, 1) := by decide +kernel
set_option maxRecDepth 20000 in
theorem ggX6_stick_X2_has : GoodIn wsX6_stick wsX2_has := goodIn_r _ [5, 6, 7, 35, 36, 37, 38] (by decide +kernel) (by decide +kernel)
set_option maxRecDepth 20000 in
theorem gX6_stick_X2_has_n202 : GoodIn wsX6_stick (wsX2_has) := ggX6_stick_X2_has
set_option maxRecDepth 20000 in
theorem ggX6_stick_X2_get : GoodIn wsX6_stick wsX2_get := goodIn_r _ [10, 11, 7, 12, 2, 4, 3, 5, 6, 35, 36, 37, 38] (by decide +kernel) (by decide +kernel)
set_option maxRecDepth 20000 in
theorem gX6_stick_X2_get_n139 : GoodIn wsX6_stick (wsX2_get) := ggX6_stick_X2_get
set_option maxRecDepth 20000 in
theorem ggX6_stick_X0_notches : GoodIn wsX6_stick wsX0_notches := goodIn_r _ [15, 16] (by decide +kernel) (by decide +kernel)
set_option maxRecDepth 20000 in
theorem gX6_stick_X0_notches_n236 : GoodIn wsX6_stick (wsX0_notches) := ggX6_stick_X0_notches
theorem dX6_stick_0 : decode cX6_stick 0 = .ok (.aload_n 0, 1) := by decide +kernel
theorem dX6_stick_1 : decode cX6_stick 1 = .ok (.getfield 71, 3) := by decide +kernel
theorem dX6_stick_4 : decode cX6_stick 4 = .ok (.iload_n 1, 1) := by decide +kernel
theorem dX6_stick_5 : decode cX6_stick 5 = .ok (.iconst 0, 1) := by decide +kernel
theorem dX6_stick_6 : decode cX6_stick 6 = .ok (.invokevirtual 202, 3) := by decide +kernel
theorem dX6_stick_9 : decode cX6_stick 9 = .ok (.ifCond .eq 14, 3) := by decide +kernel
theorem dX6_stick_12 : decode cX6_stick 12 = .ok (.iload_n 2, 1) := by decide +kernel
theorem dX6_stick_13 : decode cX6_stick 13 = .ok (.iconst (-1), 1) := by decide +kernel
theorem dX6_stick_14 : decode cX6_stick 14 = .ok (.if_icmp .lt 9, 3) := by decide +kernel
theorem dX6_stick_17 : decode cX6_stick 17 = .ok (.iload_n 2, 1) := by decide +kernel
theorem dX6_stick_18 : decode cX6_stick 18 = .ok (.bipush 6, 2) := by decide +kernel
theorem dX6_stick_20 : decode cX6_stick 20 = .ok (.if_icmp .lt 5, 3) := by decide +kernel
theorem dX6_stick_23 : decode cX6_stick 23 = .ok (.iconst (-1), 1) := by decide +kernel
theorem dX6_stick_24 : decode cX6_stick 24 = .ok (.ireturn, 1) := by decide +kernel
theorem dX6_stick_25 : decode cX6_stick 25 = .ok (.aload_n 0, 1) := by decide +kernel
theorem dX6_stick_26 : decode cX6_stick 26 = .ok (.getfield 71, 3) := by decide +kernel
theorem dX6_stick_29 : decode cX6_stick 29 = .ok (.iload_n 1, 1) := by decide +kernel
theorem dX6_stick_30 : decode cX6_stick 30 = .ok (.iconst 0, 1) := by decide +kernel
theorem dX6_stick_31 : decode cX6_stick 31 = .ok (.invokevirtual 139, 3) := by decide +kernel
theorem dX6_stick_34 : decode cX6_stick 34 = .ok (.istore_n 3, 1) := by decide +kernel
theorem dX6_stick_35 : decode cX6_stick 35 = .ok (.iload_n 2, 1) := by decide +kernel
theorem dX6_stick_36 : decode cX6_stick 36 = .ok (.ifCond .ge 7, 3) := by decide +kernel
theorem dX6_stick_39 : decode cX6_stick 39 = .ok (.iload_n 3, 1) := by decide +kernel
theorem dX6_stick_40 : decode cX6_stick 40 = .ok (.goto 8, 3) := by decide +kernel
theorem dX6_stick_43 : decode cX6_stick 43 = .ok (.iload_n 3, 1) := by decide +kernel
theorem dX6_stick_44 : decode cX6_stick 44 = .ok (.iload_n 2, 1) := by decide +kernel
theorem dX6_stick_45 : decode cX6_stick 45 = .ok (.invokestatic 236, 3) := by decide +kernel
theorem dX6_stick_48 : decode cX6_stick 48 = .ok (.ireturn, 1) := by decide +kernel
set_option maxRecDepth 20000 in
theorem ggX6_fits_X2_has : GoodIn wsX6_fits wsX2_has := goodIn_r _ [6, 7, 8, 36, 37, 38, 39] (by decide +kernel) (by decide +kernel)
set_option maxRecDepth 20000 in
theorem gX6_fits_X2_has_n202 : GoodIn wsX6_fits (wsX2_has) := ggX6_fits_X2_has
set_option maxRecDepth 20000 in
theorem ggX6_fits_X2_get : GoodIn wsX6_fits wsX2_get := goodIn_r _ [11, 12, 8, 13, 3, 5, 4, 6, 7, 36, 37, 38, 39] (by decide +kernel) (by decide +kernel)
set_option maxRecDepth 20000 in
theorem gX6_fits_X2_get_n139 : GoodIn wsX6_fits (wsX2_get) := ggX6_fits_X2_get
set_option maxRecDepth 20000 in
theorem ggX6_fits_X0_notches : GoodIn wsX6_fits wsX0_notches := goodIn_r _ [16, 17] (by decide +kernel) (by decide +kernel)
set_option maxRecDepth 20000 in
theorem gX6_fits_X0_notches_n236 : GoodIn wsX6_fits (wsX0_notches) := ggX6_fits_X0_notches
theorem dX6_fits_0 : decode cX6_fits 0 = .ok (.aload_n 0, 1) := by decide +kernel
theorem dX6_fits_1 : decode cX6_fits 1 = .ok (.getfield 71, 3) := by decide +kernel
theorem dX6_fits_4 : decode cX6_fits 4 = .ok (.iload_n 1, 1) := by decide +kernel
theorem dX6_fits_5 : decode cX6_fits 5 = .ok (.iconst 0, 1) := by decide +kernel
theorem dX6_fits_6 : decode cX6_fits 6 = .ok (.invokevirtual 202, 3) := by decide +kernel
theorem dX6_fits_9 : decode cX6_fits 9 = .ok (.ifCond .eq 13, 3) := by decide +kernel
theorem dX6_fits_12 : decode cX6_fits 12 = .ok (.iload_n 2, 1) := by decide +kernel
theorem dX6_fits_13 : decode cX6_fits 13 = .ok (.ifCond .lt 9, 3) := by decide +kernel
theorem dX6_fits_16 : decode cX6_fits 16 = .ok (.iload_n 2, 1) := by decide +kernel
theorem dX6_fits_17 : decode cX6_fits 17 = .ok (.ldc 138, 2) := by decide +kernel
theorem dX6_fits_19 : decode cX6_fits 19 = .ok (.if_icmp .le 5, 3) := by decide +kernel
theorem dX6_fits_22 : decode cX6_fits 22 = .ok (.iconst (-1), 1) := by decide +kernel
theorem dX6_fits_23 : decode cX6_fits 23 = .ok (.ireturn, 1) := by decide +kernel
theorem dX6_fits_24 : decode cX6_fits 24 = .ok (.aload_n 0, 1) := by decide +kernel
theorem dX6_fits_25 : decode cX6_fits 25 = .ok (.getfield 71, 3) := by decide +kernel
theorem dX6_fits_28 : decode cX6_fits 28 = .ok (.iload_n 1, 1) := by decide +kernel
theorem dX6_fits_29 : decode cX6_fits 29 = .ok (.iconst 0, 1) := by decide +kernel
theorem dX6_fits_30 : decode cX6_fits 30 = .ok (.invokevirtual 139, 3) := by decide +kernel
theorem dX6_fits_33 : decode cX6_fits 33 = .ok (.istore_n 3, 1) := by decide +kernel
theorem dX6_fits_34 : decode cX6_fits 34 = .ok (.iconst 0, 1) := by decide +kernel
theorem dX6_fits_35 : decode cX6_fits 35 = .ok (.istore 4, 2) := by decide +kernel
theorem dX6_fits_37 : decode cX6_fits 37 = .ok (.iload 4, 2) := by decide +kernel
theorem dX6_fits_39 : decode cX6_fits 39 = .ok (.bipush 6, 2) := by decide +kernel
theorem dX6_fits_41 : decode cX6_fits 41 = .ok (.if_icmp .ge 27, 3) := by decide +kernel
theorem dX6_fits_44 : decode cX6_fits 44 = .ok (.iload_n 3, 1) := by decide +kernel
theorem dX6_fits_45 : decode cX6_fits 45 = .ok (.iload 4, 2) := by decide +kernel
theorem dX6_fits_47 : decode cX6_fits 47 = .ok (.invokestatic 236, 3) := by decide +kernel
theorem dX6_fits_50 : decode cX6_fits 50 = .ok (.iload_n 2, 1) := by decide +kernel
theorem dX6_fits_51 : decode cX6_fits 51 = .ok (.iload 4, 2) := by decide +kernel
theorem dX6_fits_53 : decode cX6_fits 53 = .ok (.invokestatic 236, 3) := by decide +kernel
theorem dX6_fits_56 : decode cX6_fits 56 = .ok (.if_icmp .eq 6, 3) := by decide +kernel
theorem dX6_fits_59 : decode cX6_fits 59 = .ok (.iload 4, 2) := by decide +kernel
theorem dX6_fits_61 : decode cX6_fits 61 = .ok (.ireturn, 1) := by decide +kernel
theorem dX6_fits_62 : decode cX6_fits 62 = .ok (.iinc 4 1, 3) := by decide +kernel
theorem dX6_fits_65 : decode cX6_fits 65 = .ok (.goto (-28), 3) := by decide +kernel
theorem dX6_fits_68 : decode cX6_fits 68 = .ok (.bipush 6, 2) := by decide +kernel
theorem dX6_fits_70 : decode cX6_fits 70 = .ok (.ireturn, 1) := by decide +kernel
set_option maxRecDepth 20000 in
theorem ggX6_lay_X6_isSum : GoodIn wsX6_lay wsX6_isSum := goodIn_r _ [5, 6] (by decide +kernel) (by decide +kernel)
set_option maxRecDepth 20000 in
theorem gX6_lay_X6_isSum : GoodIn wsX6_lay (va_wsS RX6 169 yX6_isSum wsX6_isSum) := goodIn_app (goodIn_of _ (by decide +kernel)) ggX6_lay_X6_isSum
set_option maxRecDepth 20000 in
theorem ggX6_lay_X0_layDown : GoodIn wsX6_lay wsX0_layDown := goodIn_r _ [10, 11, 12, 13, 14, 8, 15, 16, 35] (by decide +kernel) (by decide +kernel)
set_option maxRecDepth 20000 in
theorem gX6_lay_X0_layDown_n239 : GoodIn wsX6_lay (wsX0_layDown) := ggX6_lay_X0_layDown
theorem dX6_lay_0 : decode cX6_lay 0 = .ok (.iload_n 1, 1) := by decide +kernel
theorem dX6_lay_1 : decode cX6_lay 1 = .ok (.invokestatic 169, 3) := by decide +kernel
theorem dX6_lay_4 : decode cX6_lay 4 = .ok (.ifCond .eq 14, 3) := by decide +kernel
theorem dX6_lay_7 : decode cX6_lay 7 = .ok (.aload_n 0, 1) := by decide +kernel
theorem dX6_lay_8 : decode cX6_lay 8 = .ok (.getfield 77, 3) := by decide +kernel
theorem dX6_lay_11 : decode cX6_lay 11 = .ok (.iload_n 1, 1) := by decide +kernel
theorem dX6_lay_12 : decode cX6_lay 12 = .ok (.invokevirtual 239, 3) := by decide +kernel
theorem dX6_lay_15 : decode cX6_lay 15 = .ok (.goto 4, 3) := by decide +kernel
theorem dX6_lay_18 : decode cX6_lay 18 = .ok (.iconst (-1), 1) := by decide +kernel
theorem dX6_lay_19 : decode cX6_lay 19 = .ok (.ireturn, 1) := by decide +kernel
set_option maxRecDepth 20000 in
theorem ggX6_take_X6_isSum : GoodIn wsX6_take wsX6_isSum := goodIn_r _ [5, 6] (by decide +kernel) (by decide +kernel)
set_option maxRecDepth 20000 in
theorem gX6_take_X6_isSum : GoodIn wsX6_take (va_wsS RX6 169 yX6_isSum wsX6_isSum) := goodIn_app (goodIn_of _ (by decide +kernel)) ggX6_take_X6_isSum
set_option maxRecDepth 20000 in
theorem ggX6_take_X0_lies : GoodIn wsX6_take wsX0_lies := goodIn_r _ [10, 11, 12, 43] (by decide +kernel) (by decide +kernel)
set_option maxRecDepth 20000 in
theorem gX6_take_X0_lies_n242 : GoodIn wsX6_take (wsX0_lies) := ggX6_take_X0_lies
set_option maxRecDepth 20000 in
theorem ggX6_take_X0_takeUp : GoodIn wsX6_take wsX0_takeUp := goodIn_r _ [15, 11, 16, 17, 8, 18, 19, 20, 21, 22, 23, 24, 43] (by decide +kernel) (by decide +kernel)
set_option maxRecDepth 20000 in
theorem gX6_take_X0_takeUp_n246 : GoodIn wsX6_take (wsX0_takeUp) := ggX6_take_X0_takeUp
theorem dX6_take_0 : decode cX6_take 0 = .ok (.iload_n 1, 1) := by decide +kernel
theorem dX6_take_1 : decode cX6_take 1 = .ok (.invokestatic 169, 3) := by decide +kernel
theorem dX6_take_4 : decode cX6_take 4 = .ok (.ifCond .ne 5, 3) := by decide +kernel
theorem dX6_take_7 : decode cX6_take 7 = .ok (.iconst (-1), 1) := by decide +kernel
theorem dX6_take_8 : decode cX6_take 8 = .ok (.ireturn, 1) := by decide +kernel
theorem dX6_take_9 : decode cX6_take 9 = .ok (.iload_n 1, 1) := by decide +kernel
theorem dX6_take_10 : decode cX6_take 10 = .ok (.i2l, 1) := by decide +kernel
theorem dX6_take_11 : decode cX6_take 11 = .ok (.aload_n 0, 1) := by decide +kernel
theorem dX6_take_12 : decode cX6_take 12 = .ok (.getfield 77, 3) := by decide +kernel
theorem dX6_take_15 : decode cX6_take 15 = .ok (.invokevirtual 242, 3) := by decide +kernel
theorem dX6_take_18 : decode cX6_take 18 = .ok (.lcmp, 1) := by decide +kernel
theorem dX6_take_19 : decode cX6_take 19 = .ok (.ifCond .le 8, 3) := by decide +kernel
theorem dX6_take_22 : decode cX6_take 22 = .ok (.bipush (-2), 2) := by decide +kernel
theorem dX6_take_24 : decode cX6_take 24 = .ok (.goto 11, 3) := by decide +kernel
theorem dX6_take_27 : decode cX6_take 27 = .ok (.aload_n 0, 1) := by decide +kernel
theorem dX6_take_28 : decode cX6_take 28 = .ok (.getfield 77, 3) := by decide +kernel
theorem dX6_take_31 : decode cX6_take 31 = .ok (.iload_n 1, 1) := by decide +kernel
theorem dX6_take_32 : decode cX6_take 32 = .ok (.invokevirtual 246, 3) := by decide +kernel
theorem dX6_take_35 : decode cX6_take 35 = .ok (.ireturn, 1) := by decide +kernel
theorem dX6_cloth_0 : decode cX6_cloth 0 = .ok (.iload_n 1, 1) := by decide +kernel
theorem dX6_cloth_1 : decode cX6_cloth 1 = .ok (.ifCond .lt 9, 3) := by decide +kernel
theorem dX6_cloth_4 : decode cX6_cloth 4 = .ok (.iload_n 1, 1) := by decide +kernel
theorem dX6_cloth_5 : decode cX6_cloth 5 = .ok (.bipush 6, 2) := by decide +kernel
theorem dX6_cloth_7 : decode cX6_cloth 7 = .ok (.if_icmp .lt 7, 3) := by decide +kernel
theorem dX6_cloth_10 : decode cX6_cloth 10 = .ok (.iconst (-1), 1) := by decide +kernel
theorem dX6_cloth_11 : decode cX6_cloth 11 = .ok (.goto 12, 3) := by decide +kernel
theorem dX6_cloth_14 : decode cX6_cloth 14 = .ok (.aload_n 0, 1) := by decide +kernel
theorem dX6_cloth_15 : decode cX6_cloth 15 = .ok (.getfield 77, 3) := by decide +kernel
theorem dX6_cloth_18 : decode cX6_cloth 18 = .ok (.getfield 249, 3) := by decide +kernel
theorem dX6_cloth_21 : decode cX6_cloth 21 = .ok (.iload_n 1, 1) := by decide +kernel
theorem dX6_cloth_22 : decode cX6_cloth 22 = .ok (.iaload, 1) := by decide +kernel
theorem dX6_cloth_23 : decode cX6_cloth 23 = .ok (.ireturn, 1) := by decide +kernel
set_option maxRecDepth 20000 in
theorem ggX6_sum_X0_lies : GoodIn wsX6_sum wsX0_lies := goodIn_r _ [9, 10, 11, 51] (by decide +kernel) (by decide +kernel)
set_option maxRecDepth 20000 in
theorem gX6_sum_X0_lies_n242 : GoodIn wsX6_sum (wsX0_lies) := ggX6_sum_X0_lies
set_option maxRecDepth 20000 in
theorem ggX6_sum_X6_allCredits : GoodIn wsX6_sum wsX6_allCredits := goodIn_r _ [16, 17, 33, 34, 35, 36, 37, 38, 39, 40, 41, 42, 43, 44, 45, 46, 47, 48, 49, 50] (by decide +kernel) (by decide +kernel)
set_option maxRecDepth 20000 in
theorem gX6_sum_X6_allCredits : GoodIn wsX6_sum (wsV RX6 252 RX6 yX6_allCredits wsX6_allCredits) := goodIn_app (goodIn_of _ (by decide +kernel)) ggX6_sum_X6_allCredits
set_option maxRecDepth 20000 in
theorem ggX6_sum_X2_total : GoodIn wsX6_sum wsX2_total := goodIn_r _ [21, 22, 23, 24, 25, 19, 26, 27, 28, 29, 30, 31, 32, 52, 53, 54, 55] (by decide +kernel) (by decide +kernel)
set_option maxRecDepth 20000 in
theorem gX6_sum_X2_total_n255 : GoodIn wsX6_sum (wsX2_total) := ggX6_sum_X2_total
theorem dX6_sum_0 : decode cX6_sum 0 = .ok (.iload_n 1, 1) := by decide +kernel
theorem dX6_sum_1 : decode cX6_sum 1 = .ok (.tableswitch 94 0 6 #[43, 51, 56, 61, 70, 80, 89], 43) := by decide +kernel
theorem dX6_sum_44 : decode cX6_sum 44 = .ok (.aload_n 0, 1) := by decide +kernel
theorem dX6_sum_45 : decode cX6_sum 45 = .ok (.getfield 77, 3) := by decide +kernel
theorem dX6_sum_48 : decode cX6_sum 48 = .ok (.invokevirtual 242, 3) := by decide +kernel
theorem dX6_sum_51 : decode cX6_sum 51 = .ok (.lreturn, 1) := by decide +kernel
theorem dX6_sum_52 : decode cX6_sum 52 = .ok (.aload_n 0, 1) := by decide +kernel
theorem dX6_sum_53 : decode cX6_sum 53 = .ok (.getfield 233, 3) := by decide +kernel
theorem dX6_sum_56 : decode cX6_sum 56 = .ok (.lreturn, 1) := by decide +kernel
theorem dX6_sum_57 : decode cX6_sum 57 = .ok (.aload_n 0, 1) := by decide +kernel
theorem dX6_sum_58 : decode cX6_sum 58 = .ok (.invokevirtual 252, 3) := by decide +kernel
theorem dX6_sum_61 : decode cX6_sum 61 = .ok (.lreturn, 1) := by decide +kernel
theorem dX6_sum_62 : decode cX6_sum 62 = .ok (.aload_n 0, 1) := by decide +kernel
theorem dX6_sum_63 : decode cX6_sum 63 = .ok (.getfield 65, 3) := by decide +kernel
theorem dX6_sum_66 : decode cX6_sum 66 = .ok (.iconst 3, 1) := by decide +kernel
theorem dX6_sum_67 : decode cX6_sum 67 = .ok (.invokevirtual 255, 3) := by decide +kernel
theorem dX6_sum_70 : decode cX6_sum 70 = .ok (.lreturn, 1) := by decide +kernel
theorem dX6_sum_71 : decode cX6_sum 71 = .ok (.aload_n 0, 1) := by decide +kernel
theorem dX6_sum_72 : decode cX6_sum 72 = .ok (.getfield 65, 3) := by decide +kernel
theorem dX6_sum_75 : decode cX6_sum 75 = .ok (.bipush 6, 2) := by decide +kernel
theorem dX6_sum_77 : decode cX6_sum 77 = .ok (.invokevirtual 255, 3) := by decide +kernel
theorem dX6_sum_80 : decode cX6_sum 80 = .ok (.lreturn, 1) := by decide +kernel
theorem dX6_sum_81 : decode cX6_sum 81 = .ok (.aload_n 0, 1) := by decide +kernel
theorem dX6_sum_82 : decode cX6_sum 82 = .ok (.getfield 65, 3) := by decide +kernel
theorem dX6_sum_85 : decode cX6_sum 85 = .ok (.iconst 2, 1) := by decide +kernel
theorem dX6_sum_86 : decode cX6_sum 86 = .ok (.invokevirtual 255, 3) := by decide +kernel
theorem dX6_sum_89 : decode cX6_sum 89 = .ok (.lreturn, 1) := by decide +kernel
theorem dX6_sum_90 : decode cX6_sum 90 = .ok (.aload_n 0, 1) := by decide +kernel
theorem dX6_sum_91 : decode cX6_sum 91 = .ok (.getfield 187, 3) := by decide +kernel
theorem dX6_sum_94 : decode cX6_sum 94 = .ok (.lreturn, 1) := by decide +kernel
theorem dX6_sum_95 : decode cX6_sum 95 = .ok (.ldc2_w 205, 3) := by decide +kernel
theorem dX6_sum_98 : decode cX6_sum 98 = .ok (.lreturn, 1) := by decide +kernel
theorem dX6_count_0 : decode cX6_count 0 = .ok (.iload_n 1, 1) := by decide +kernel
theorem dX6_count_1 : decode cX6_count 1 = .ok (.tableswitch 81 0 5 #[39, 47, 55, 63, 68, 73], 39) := by decide +kernel
theorem dX6_count_40 : decode cX6_count 40 = .ok (.aload_n 0, 1) := by decide +kernel
theorem dX6_count_41 : decode cX6_count 41 = .ok (.getfield 65, 3) := by decide +kernel
theorem dX6_count_44 : decode cX6_count 44 = .ok (.getfield 155, 3) := by decide +kernel
theorem dX6_count_47 : decode cX6_count 47 = .ok (.ireturn, 1) := by decide +kernel
theorem dX6_count_48 : decode cX6_count 48 = .ok (.aload_n 0, 1) := by decide +kernel
theorem dX6_count_49 : decode cX6_count 49 = .ok (.getfield 68, 3) := by decide +kernel
theorem dX6_count_52 : decode cX6_count 52 = .ok (.getfield 155, 3) := by decide +kernel
theorem dX6_count_55 : decode cX6_count 55 = .ok (.ireturn, 1) := by decide +kernel
theorem dX6_count_56 : decode cX6_count 56 = .ok (.aload_n 0, 1) := by decide +kernel
theorem dX6_count_57 : decode cX6_count 57 = .ok (.getfield 71, 3) := by decide +kernel
theorem dX6_count_60 : decode cX6_count 60 = .ok (.getfield 155, 3) := by decide +kernel
theorem dX6_count_63 : decode cX6_count 63 = .ok (.ireturn, 1) := by decide +kernel
theorem dX6_count_64 : decode cX6_count 64 = .ok (.aload_n 0, 1) := by decide +kernel
theorem dX6_count_65 : decode cX6_count 65 = .ok (.getfield 99, 3) := by decide +kernel
theorem dX6_count_68 : decode cX6_count 68 = .ok (.ireturn, 1) := by decide +kernel
theorem dX6_count_69 : decode cX6_count 69 = .ok (.aload_n 0, 1) := by decide +kernel
theorem dX6_count_70 : decode cX6_count 70 = .ok (.getfield 120, 3) := by decide +kernel
theorem dX6_count_73 : decode cX6_count 73 = .ok (.ireturn, 1) := by decide +kernel
theorem dX6_count_74 : decode cX6_count 74 = .ok (.aload_n 0, 1) := by decide +kernel
theorem dX6_count_75 : decode cX6_count 75 = .ok (.getfield 10, 3) := by decide +kernel
theorem dX6_count_78 : decode cX6_count 78 = .ok (.getfield 95, 3) := by decide +kernel
theorem dX6_count_81 : decode cX6_count 81 = .ok (.ireturn, 1) := by decide +kernel
theorem dX6_count_82 : decode cX6_count 82 = .ok (.iconst (-1), 1) := by decide +kernel
theorem dX6_count_83 : decode cX6_count 83 = .ok (.ireturn, 1) := by decide +kernel
theorem dX6_allCredits_0 : decode cX6_allCredits 0 = .ok (.lconst 0, 1) := by decide +kernel
theorem dX6_allCredits_1 : decode cX6_allCredits 1 = .ok (.lstore_n 1, 1) := by decide +kernel
theorem dX6_allCredits_2 : decode cX6_allCredits 2 = .ok (.iconst 0, 1) := by decide +kernel
theorem dX6_allCredits_3 : decode cX6_allCredits 3 = .ok (.istore_n 3, 1) := by decide +kernel
theorem dX6_allCredits_4 : decode cX6_allCredits 4 = .ok (.iload_n 3, 1) := by decide +kernel
theorem dX6_allCredits_5 : decode cX6_allCredits 5 = .ok (.bipush 16, 2) := by decide +kernel
theorem dX6_allCredits_7 : decode cX6_allCredits 7 = .ok (.if_icmp .ge 18, 3) := by decide +kernel
theorem dX6_allCredits_10 : decode cX6_allCredits 10 = .ok (.lload_n 1, 1) := by decide +kernel
theorem dX6_allCredits_11 : decode cX6_allCredits 11 = .ok (.aload_n 0, 1) := by decide +kernel
theorem dX6_allCredits_12 : decode cX6_allCredits 12 = .ok (.getfield 47, 3) := by decide +kernel
theorem dX6_allCredits_15 : decode cX6_allCredits 15 = .ok (.iload_n 3, 1) := by decide +kernel
theorem dX6_allCredits_16 : decode cX6_allCredits 16 = .ok (.laload, 1) := by decide +kernel
theorem dX6_allCredits_17 : decode cX6_allCredits 17 = .ok (.ladd, 1) := by decide +kernel
theorem dX6_allCredits_18 : decode cX6_allCredits 18 = .ok (.lstore_n 1, 1) := by decide +kernel
theorem dX6_allCredits_19 : decode cX6_allCredits 19 = .ok (.iinc 3 1, 3) := by decide +kernel
theorem dX6_allCredits_22 : decode cX6_allCredits 22 = .ok (.goto (-18), 3) := by decide +kernel
theorem dX6_allCredits_25 : decode cX6_allCredits 25 = .ok (.lload_n 1, 1) := by decide +kernel
theorem dX6_allCredits_26 : decode cX6_allCredits 26 = .ok (.lreturn, 1) := by decide +kernel
set_option maxRecDepth 20000 in
theorem ggJ0_length_8abf5_J0_coder_7d493 : GoodIn wsJ0_length_8abf5 wsJ0_coder_7d493 := goodIn_r _ [6, 7, 8] (by decide +kernel) (by decide +kernel)
set_option maxRecDepth 20000 in
theorem gJ0_length_8abf5_J0_coder_7d493 : GoodIn wsJ0_length_8abf5 (wsV RJ0 335 RJ0 yJ0_coder_7d493 wsJ0_coder_7d493) := goodIn_app (goodIn_of _ (by decide +kernel)) ggJ0_length_8abf5_J0_coder_7d493
theorem dJ0_length_8abf5_0 : decode cJ0_length_8abf5 0 = .ok (.aload_n 0, 1) := by decide +kernel
theorem dJ0_length_8abf5_1 : decode cJ0_length_8abf5 1 = .ok (.getfield 9, 3) := by decide +kernel
theorem dJ0_length_8abf5_4 : decode cJ0_length_8abf5 4 = .ok (.arraylength, 1) := by decide +kernel
theorem dJ0_length_8abf5_5 : decode cJ0_length_8abf5 5 = .ok (.aload_n 0, 1) := by decide +kernel
theorem dJ0_length_8abf5_6 : decode cJ0_length_8abf5 6 = .ok (.invokevirtual 335, 3) := by decide +kernel
theorem dJ0_length_8abf5_9 : decode cJ0_length_8abf5 9 = .ok (.ishr, 1) := by decide +kernel
theorem dJ0_length_8abf5_10 : decode cJ0_length_8abf5 10 = .ok (.ireturn, 1) := by decide +kernel
set_option maxRecDepth 20000 in
theorem ggJ0_charAt_5068e_J0_isLatin1_aae02 : GoodIn wsJ0_charAt_5068e wsJ0_isLatin1_aae02 := goodIn_r _ [6, 7, 8] (by decide +kernel) (by decide +kernel)
set_option maxRecDepth 20000 in
theorem gJ0_charAt_5068e_J0_isLatin1_aae02 : GoodIn wsJ0_charAt_5068e (wsV RJ0 492 RJ0 yJ0_isLatin1_aae02 wsJ0_isLatin1_aae02) := goodIn_app (goodIn_of _ (by decide +kernel)) ggJ0_charAt_5068e_J0_isLatin1_aae02
set_option maxRecDepth 20000 in
theorem ggJ0_charAt_5068e_J1_charAt_3b067 : GoodIn wsJ0_charAt_5068e wsJ1_charAt_3b067 := goodIn_r _ [12, 13, 14, 5, 15, 16, 17, 18, 19, 20] (by decide +kernel) (by decide +kernel)
set_option maxRecDepth 20000 in
theorem gJ0_charAt_5068e_J1_charAt_3b067 : GoodIn wsJ0_charAt_5068e (va_wsS RJ0 495 yJ1_charAt_3b067 wsJ1_charAt_3b067) := goodIn_app (goodIn_of _ (by decide +kernel)) ggJ0_charAt_5068e_J1_charAt_3b067
set_option maxRecDepth 20000 in
theorem ggJ0_charAt_5068e_J2_charAt_3b067 : GoodIn wsJ0_charAt_5068e wsJ2_charAt_3b067 := goodIn_r _ [24, 25, 26, 23, 27, 28, 29, 30, 31, 14, 5, 15, 16, 17, 18, 19, 20, 32, 33, 34, 35, 36, 37] (by decide +kernel) (by decide +kernel)
set_option maxRecDepth 20000 in
theorem gJ0_charAt_5068e_J2_charAt_3b067 : GoodIn wsJ0_charAt_5068e (va_wsS RJ0 498 yJ2_charAt_3b067 wsJ2_charAt_3b067) := goodIn_app (goodIn_of _ (by decide +kernel)) ggJ0_charAt_5068e_J2_charAt_3b067
theorem dJ0_charAt_5068e_0 : decode cJ0_charAt_5068e 0 = .ok (.aload_n 0, 1) := by decide +kernel
theorem dJ0_charAt_5068e_1 : decode cJ0_charAt_5068e 1 = .ok (.invokevirtual 492, 3) := by decide +kernel
theorem dJ0_charAt_5068e_4 : decode cJ0_charAt_5068e 4 = .ok (.ifCond .eq 12, 3) := by decide +kernel
theorem dJ0_charAt_5068e_7 : decode cJ0_charAt_5068e 7 = .ok (.aload_n 0, 1) := by decide +kernel
theorem dJ0_charAt_5068e_8 : decode cJ0_charAt_5068e 8 = .ok (.getfield 9, 3) := by decide +kernel
theorem dJ0_charAt_5068e_11 : decode cJ0_charAt_5068e 11 = .ok (.iload_n 1, 1) := by decide +kernel
theorem dJ0_charAt_5068e_12 : decode cJ0_charAt_5068e 12 = .ok (.invokestatic 495, 3) := by decide +kernel
theorem dJ0_charAt_5068e_15 : decode cJ0_charAt_5068e 15 = .ok (.ireturn, 1) := by decide +kernel
theorem dJ0_charAt_5068e_16 : decode cJ0_charAt_5068e 16 = .ok (.aload_n 0, 1) := by decide +kernel
theorem dJ0_charAt_5068e_17 : decode cJ0_charAt_5068e 17 = .ok (.getfield 9, 3) := by decide +kernel
theorem dJ0_charAt_5068e_20 : decode cJ0_charAt_5068e 20 = .ok (.iload_n 1, 1) := by decide +kernel
theorem dJ0_charAt_5068e_21 : decode cJ0_charAt_5068e 21 = .ok (.invokestatic 498, 3) := by decide +kernel
theorem dJ0_charAt_5068e_24 : decode cJ0_charAt_5068e 24 = .ok (.ireturn, 1) := by decide +kernel
theorem dJ0_coder_7d493_0 : decode cJ0_coder_7d493 0 = .ok (.getstatic 38, 3) := by decide +kernel
theorem dJ0_coder_7d493_3 : decode cJ0_coder_7d493 3 = .ok (.ifCond .eq 10, 3) := by decide +kernel
theorem dJ0_coder_7d493_6 : decode cJ0_coder_7d493 6 = .ok (.aload_n 0, 1) := by decide +kernel
theorem dJ0_coder_7d493_7 : decode cJ0_coder_7d493 7 = .ok (.getfield 15, 3) := by decide +kernel
theorem dJ0_coder_7d493_10 : decode cJ0_coder_7d493 10 = .ok (.goto 4, 3) := by decide +kernel
theorem dJ0_coder_7d493_13 : decode cJ0_coder_7d493 13 = .ok (.iconst 1, 1) := by decide +kernel
theorem dJ0_coder_7d493_14 : decode cJ0_coder_7d493 14 = .ok (.ireturn, 1) := by decide +kernel
theorem dJ0_isLatin1_aae02_0 : decode cJ0_isLatin1_aae02 0 = .ok (.getstatic 38, 3) := by decide +kernel
theorem dJ0_isLatin1_aae02_3 : decode cJ0_isLatin1_aae02 3 = .ok (.ifCond .eq 14, 3) := by decide +kernel
theorem dJ0_isLatin1_aae02_6 : decode cJ0_isLatin1_aae02 6 = .ok (.aload_n 0, 1) := by decide +kernel
theorem dJ0_isLatin1_aae02_7 : decode cJ0_isLatin1_aae02 7 = .ok (.getfield 15, 3) := by decide +kernel
theorem dJ0_isLatin1_aae02_10 : decode cJ0_isLatin1_aae02 10 = .ok (.ifCond .ne 7, 3) := by decide +kernel
theorem dJ0_isLatin1_aae02_13 : decode cJ0_isLatin1_aae02 13 = .ok (.iconst 1, 1) := by decide +kernel
theorem dJ0_isLatin1_aae02_14 : decode cJ0_isLatin1_aae02 14 = .ok (.goto 4, 3) := by decide +kernel
theorem dJ0_isLatin1_aae02_17 : decode cJ0_isLatin1_aae02 17 = .ok (.iconst 0, 1) := by decide +kernel
theorem dJ0_isLatin1_aae02_18 : decode cJ0_isLatin1_aae02 18 = .ok (.ireturn, 1) := by decide +kernel
set_option maxRecDepth 20000 in
theorem ggJ0_checkIndex_df160_J3_checkIndex_8e157 : GoodIn wsJ0_checkIndex_df160 wsJ3_checkIndex_8e157 := goodIn_r _ [5] (by decide +kernel) (by decide +kernel)
set_option maxRecDepth 20000 in
theorem gJ0_checkIndex_df160_J3_checkIndex_8e157 : GoodIn wsJ0_checkIndex_df160 (va_wsS RJ0 1059 yJ3_checkIndex_8e157 wsJ3_checkIndex_8e157) := goodIn_app (goodIn_of _ (by decide +kernel)) ggJ0_checkIndex_df160_J3_checkIndex_8e157
theorem dJ0_checkIndex_df160_0 : decode cJ0_checkIndex_df160 0 = .ok (.iload_n 0, 1) := by decide +kernel
theorem dJ0_checkIndex_df160_1 : decode cJ0_checkIndex_df160 1 = .ok (.iload_n 1, 1) := by decide +kernel
theorem dJ0_checkIndex_df160_2 : decode cJ0_checkIndex_df160 2 = .ok (.getstatic 1053, 3) := by decide +kernel
theorem dJ0_checkIndex_df160_5 : decode cJ0_checkIndex_df160 5 = .ok (.invokestatic 1059, 3) := by decide +kernel
theorem dJ0_checkIndex_df160_8 : decode cJ0_checkIndex_df160 8 = .ok (.pop, 1) := by decide +kernel
theorem dJ0_checkIndex_df160_9 : decode cJ0_checkIndex_df160 9 = .ok (.return_, 1) := by decide +kernel
set_option maxRecDepth 20000 in
theorem ggJ1_charAt_3b067_J0_checkIndex_df160 : GoodIn wsJ1_charAt_3b067 wsJ0_checkIndex_df160 := goodIn_r _ [4, 5, 6, 7, 8, 9] (by decide +kernel) (by decide +kernel)
set_option maxRecDepth 20000 in
theorem gJ1_charAt_3b067_J0_checkIndex_df160 : GoodIn wsJ1_charAt_3b067 (va_wsS RJ1 9 yJ0_checkIndex_df160 wsJ0_checkIndex_df160) := goodIn_app (goodIn_of _ (by decide +kernel)) ggJ1_charAt_3b067_J0_checkIndex_df160
theorem dJ1_charAt_3b067_0 : decode cJ1_charAt_3b067 0 = .ok (.iload_n 1, 1) := by decide +kernel
theorem dJ1_charAt_3b067_1 : decode cJ1_charAt_3b067 1 = .ok (.aload_n 0, 1) := by decide +kernel
theorem dJ1_charAt_3b067_2 : decode cJ1_charAt_3b067 2 = .ok (.arraylength, 1) := by decide +kernel
theorem dJ1_charAt_3b067_3 : decode cJ1_charAt_3b067 3 = .ok (.invokestatic 9, 3) := by decide +kernel
theorem dJ1_charAt_3b067_6 : decode cJ1_charAt_3b067 6 = .ok (.aload_n 0, 1) := by decide +kernel
theorem dJ1_charAt_3b067_7 : decode cJ1_charAt_3b067 7 = .ok (.iload_n 1, 1) := by decide +kernel
theorem dJ1_charAt_3b067_8 : decode cJ1_charAt_3b067 8 = .ok (.baload, 1) := by decide +kernel
theorem dJ1_charAt_3b067_9 : decode cJ1_charAt_3b067 9 = .ok (.sipush 255, 3) := by decide +kernel
theorem dJ1_charAt_3b067_12 : decode cJ1_charAt_3b067 12 = .ok (.iand, 1) := by decide +kernel
theorem dJ1_charAt_3b067_13 : decode cJ1_charAt_3b067 13 = .ok (.i2c, 1) := by decide +kernel
theorem dJ1_charAt_3b067_14 : decode cJ1_charAt_3b067 14 = .ok (.ireturn, 1) := by decide +kernel
theorem dJ7_fill_53178_0 : decode cJ7_fill_53178 0 = .ok (.iconst 0, 1) := by decide +kernel
theorem dJ7_fill_53178_1 : decode cJ7_fill_53178 1 = .ok (.istore_n 2, 1) := by decide +kernel
theorem dJ7_fill_53178_2 : decode cJ7_fill_53178 2 = .ok (.aload_n 0, 1) := by decide +kernel
theorem dJ7_fill_53178_3 : decode cJ7_fill_53178 3 = .ok (.arraylength, 1) := by decide +kernel
theorem dJ7_fill_53178_4 : decode cJ7_fill_53178 4 = .ok (.istore_n 3, 1) := by decide +kernel
theorem dJ7_fill_53178_5 : decode cJ7_fill_53178 5 = .ok (.iload_n 2, 1) := by decide +kernel
theorem dJ7_fill_53178_6 : decode cJ7_fill_53178 6 = .ok (.iload_n 3, 1) := by decide +kernel
theorem dJ7_fill_53178_7 : decode cJ7_fill_53178 7 = .ok (.if_icmp .ge 13, 3) := by decide +kernel
theorem dJ7_fill_53178_10 : decode cJ7_fill_53178 10 = .ok (.aload_n 0, 1) := by decide +kernel
theorem dJ7_fill_53178_11 : decode cJ7_fill_53178 11 = .ok (.iload_n 2, 1) := by decide +kernel
theorem dJ7_fill_53178_12 : decode cJ7_fill_53178 12 = .ok (.iload_n 1, 1) := by decide +kernel
theorem dJ7_fill_53178_13 : decode cJ7_fill_53178 13 = .ok (.iastore, 1) := by decide +kernel
theorem dJ7_fill_53178_14 : decode cJ7_fill_53178 14 = .ok (.iinc 2 1, 3) := by decide +kernel
theorem dJ7_fill_53178_17 : decode cJ7_fill_53178 17 = .ok (.goto (-12), 3) := by decide +kernel
theorem dJ7_fill_53178_20 : decode cJ7_fill_53178 20 = .ok (.return_, 1) := by decide +kernel
theorem dJ7_copyOf_59c91_0 : decode cJ7_copyOf_59c91 0 = .ok (.iload_n 1, 1) := by decide +kernel
theorem dJ7_copyOf_59c91_1 : decode cJ7_copyOf_59c91 1 = .ok (.aload_n 0, 1) := by decide +kernel
theorem dJ7_copyOf_59c91_2 : decode cJ7_copyOf_59c91 2 = .ok (.arraylength, 1) := by decide +kernel
theorem dJ7_copyOf_59c91_3 : decode cJ7_copyOf_59c91 3 = .ok (.if_icmp .ne 11, 3) := by decide +kernel
theorem dJ7_copyOf_59c91_6 : decode cJ7_copyOf_59c91 6 = .ok (.aload_n 0, 1) := by decide +kernel
theorem dJ7_copyOf_59c91_7 : decode cJ7_copyOf_59c91 7 = .ok (.invokevirtual 316, 3) := by decide +kernel
theorem dJ7_copyOf_59c91_10 : decode cJ7_copyOf_59c91 10 = .ok (.checkcast 317, 3) := by decide +kernel
theorem dJ7_copyOf_59c91_13 : decode cJ7_copyOf_59c91 13 = .ok (.areturn, 1) := by decide +kernel
theorem dJ7_copyOf_59c91_14 : decode cJ7_copyOf_59c91 14 = .ok (.iload_n 1, 1) := by decide +kernel
theorem dJ7_copyOf_59c91_15 : decode cJ7_copyOf_59c91 15 = .ok (.newarray .int, 2) := by decide +kernel
theorem dJ7_copyOf_59c91_17 : decode cJ7_copyOf_59c91 17 = .ok (.astore_n 2, 1) := by decide +kernel
theorem dJ7_copyOf_59c91_18 : decode cJ7_copyOf_59c91 18 = .ok (.aload_n 0, 1) := by decide +kernel
theorem dJ7_copyOf_59c91_19 : decode cJ7_copyOf_59c91 19 = .ok (.iconst 0, 1) := by decide +kernel
theorem dJ7_copyOf_59c91_20 : decode cJ7_copyOf_59c91 20 = .ok (.aload_n 2, 1) := by decide +kernel
theorem dJ7_copyOf_59c91_21 : decode cJ7_copyOf_59c91 21 = .ok (.iconst 0, 1) := by decide +kernel
theorem dJ7_copyOf_59c91_22 : decode cJ7_copyOf_59c91 22 = .ok (.aload_n 0, 1) := by decide +kernel
theorem dJ7_copyOf_59c91_23 : decode cJ7_copyOf_59c91 23 = .ok (.arraylength, 1) := by decide +kernel
theorem dJ7_copyOf_59c91_24 : decode cJ7_copyOf_59c91 24 = .ok (.iload_n 1, 1) := by decide +kernel
theorem dJ7_copyOf_59c91_25 : decode cJ7_copyOf_59c91 25 = .ok (.invokestatic 304, 3) := by decide +kernel
theorem dJ7_copyOf_59c91_28 : decode cJ7_copyOf_59c91 28 = .ok (.invokestatic 150, 3) := by decide +kernel
theorem dJ7_copyOf_59c91_31 : decode cJ7_copyOf_59c91 31 = .ok (.aload_n 2, 1) := by decide +kernel
theorem dJ7_copyOf_59c91_32 : decode cJ7_copyOf_59c91 32 = .ok (.areturn, 1) := by decide +kernel
theorem dJ3_checkIndex_8e157_0 : decode cJ3_checkIndex_8e157 0 = .ok (.iload_n 0, 1) := by decide +kernel
theorem dJ3_checkIndex_8e157_1 : decode cJ3_checkIndex_8e157 1 = .ok (.ifCond .lt 8, 3) := by decide +kernel
theorem dJ3_checkIndex_8e157_4 : decode cJ3_checkIndex_8e157 4 = .ok (.iload_n 0, 1) := by decide +kernel
theorem dJ3_checkIndex_8e157_5 : decode cJ3_checkIndex_8e157 5 = .ok (.iload_n 1, 1) := by decide +kernel
theorem dJ3_checkIndex_8e157_6 : decode cJ3_checkIndex_8e157 6 = .ok (.if_icmp .lt 10, 3) := by decide +kernel
theorem dJ3_checkIndex_8e157_9 : decode cJ3_checkIndex_8e157 9 = .ok (.aload_n 2, 1) := by decide +kernel
theorem dJ3_checkIndex_8e157_10 : decode cJ3_checkIndex_8e157 10 = .ok (.iload_n 0, 1) := by decide +kernel
theorem dJ3_checkIndex_8e157_11 : decode cJ3_checkIndex_8e157 11 = .ok (.iload_n 1, 1) := by decide +kernel
theorem dJ3_checkIndex_8e157_12 : decode cJ3_checkIndex_8e157 12 = .ok (.invokestatic 95, 3) := by decide +kernel
theorem dJ3_checkIndex_8e157_15 : decode cJ3_checkIndex_8e157 15 = .ok (.athrow, 1) := by decide +kernel
theorem dJ3_checkIndex_8e157_16 : decode cJ3_checkIndex_8e157 16 = .ok (.iload_n 0, 1) := by decide +kernel
theorem dJ3_checkIndex_8e157_17 : decode cJ3_checkIndex_8e157 17 = .ok (.ireturn, 1) := by decide +kernel
