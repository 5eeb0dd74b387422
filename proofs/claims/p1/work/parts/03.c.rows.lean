theorem dX6_isSum_11 : decode cX6_isSum 11 = .ok (.iconst 1, 1) := by decide +kernel
theorem dX6_isSum_12 : decode cX6_isSum 12 = .ok (.goto 4, 3) := by decide +kernel
theorem dX6_isSum_15 : decode cX6_isSum 15 = .ok (.iconst 0, 1) := by decide +kernel
theorem dX6_isSum_16 : decode cX6_isSum 16 = .ok (.ireturn, 1) := by decide +kernel
set_option maxRecDepth 20000 in
theorem ggX6_isHeld_X6_isPerson : GoodIn wsX6_isHeld wsX6_isPerson := goodIn_r _ [5] (by decide +kernel) (by decide +kernel)
set_option maxRecDepth 20000 in
theorem gX6_isHeld_X6_isPerson : GoodIn wsX6_isHeld (va_wsS RX6 166 yX6_isPerson wsX6_isPerson) := goodIn_app (goodIn_of _ (by decide +kernel)) ggX6_isHeld_X6_isPerson
theorem dX6_isHeld_0 : decode cX6_isHeld 0 = .ok (.iload_n 1, 1) := by decide +kernel
theorem dX6_isHeld_1 : decode cX6_isHeld 1 = .ok (.invokestatic 166, 3) := by decide +kernel
theorem dX6_isHeld_4 : decode cX6_isHeld 4 = .ok (.ifCond .eq 16, 3) := by decide +kernel
theorem dX6_isHeld_7 : decode cX6_isHeld 7 = .ok (.aload_n 0, 1) := by decide +kernel
theorem dX6_isHeld_8 : decode cX6_isHeld 8 = .ok (.getfield 51, 3) := by decide +kernel
theorem dX6_isHeld_11 : decode cX6_isHeld 11 = .ok (.iload_n 1, 1) := by decide +kernel
theorem dX6_isHeld_12 : decode cX6_isHeld 12 = .ok (.baload, 1) := by decide +kernel
theorem dX6_isHeld_13 : decode cX6_isHeld 13 = .ok (.ifCond .eq 7, 3) := by decide +kernel
theorem dX6_isHeld_16 : decode cX6_isHeld 16 = .ok (.iconst 1, 1) := by decide +kernel
theorem dX6_isHeld_17 : decode cX6_isHeld 17 = .ok (.goto 4, 3) := by decide +kernel
theorem dX6_isHeld_20 : decode cX6_isHeld 20 = .ok (.iconst 0, 1) := by decide +kernel
theorem dX6_isHeld_21 : decode cX6_isHeld 21 = .ok (.ireturn, 1) := by decide +kernel
set_option maxRecDepth 20000 in
theorem ggX6_isOwed_X2_has : GoodIn wsX6_isOwed wsX2_has := goodIn_r _ [5, 6, 7, 31, 32, 33, 34] (by decide +kernel) (by decide +kernel)
set_option maxRecDepth 20000 in
theorem gX6_isOwed_X2_has_n202 : GoodIn wsX6_isOwed (wsX2_has) := ggX6_isOwed_X2_has
set_option maxRecDepth 20000 in
theorem ggX6_isOwed_X2_get : GoodIn wsX6_isOwed wsX2_get := goodIn_r _ [10, 11, 7, 12, 2, 4, 3, 5, 6, 31, 32, 33, 34] (by decide +kernel) (by decide +kernel)
set_option maxRecDepth 20000 in
theorem gX6_isOwed_X2_get_n139 : GoodIn wsX6_isOwed (wsX2_get) := ggX6_isOwed_X2_get
theorem dX6_isOwed_0 : decode cX6_isOwed 0 = .ok (.aload_n 0, 1) := by decide +kernel
theorem dX6_isOwed_1 : decode cX6_isOwed 1 = .ok (.getfield 65, 3) := by decide +kernel
theorem dX6_isOwed_4 : decode cX6_isOwed 4 = .ok (.iload_n 1, 1) := by decide +kernel
theorem dX6_isOwed_5 : decode cX6_isOwed 5 = .ok (.iconst 3, 1) := by decide +kernel
theorem dX6_isOwed_6 : decode cX6_isOwed 6 = .ok (.invokevirtual 202, 3) := by decide +kernel
theorem dX6_isOwed_9 : decode cX6_isOwed 9 = .ok (.ifCond .eq 19, 3) := by decide +kernel
theorem dX6_isOwed_12 : decode cX6_isOwed 12 = .ok (.aload_n 0, 1) := by decide +kernel
theorem dX6_isOwed_13 : decode cX6_isOwed 13 = .ok (.getfield 65, 3) := by decide +kernel
theorem dX6_isOwed_16 : decode cX6_isOwed 16 = .ok (.iload_n 1, 1) := by decide +kernel
theorem dX6_isOwed_17 : decode cX6_isOwed 17 = .ok (.iconst 3, 1) := by decide +kernel
theorem dX6_isOwed_18 : decode cX6_isOwed 18 = .ok (.invokevirtual 139, 3) := by decide +kernel
theorem dX6_isOwed_21 : decode cX6_isOwed 21 = .ok (.ifCond .le 7, 3) := by decide +kernel
theorem dX6_isOwed_24 : decode cX6_isOwed 24 = .ok (.iconst 1, 1) := by decide +kernel
theorem dX6_isOwed_25 : decode cX6_isOwed 25 = .ok (.goto 4, 3) := by decide +kernel
theorem dX6_isOwed_28 : decode cX6_isOwed 28 = .ok (.iconst 0, 1) := by decide +kernel
theorem dX6_isOwed_29 : decode cX6_isOwed 29 = .ok (.ireturn, 1) := by decide +kernel
set_option maxRecDepth 20000 in
theorem ggX6_isOwedBy_X6_isOwed : GoodIn wsX6_isOwedBy wsX6_isOwed := goodIn_r _ [6, 1, 7, 8, 9, 10, 11, 12, 13, 14, 15, 16, 17, 18, 19, 20, 21, 22, 23, 24, 25, 26, 27, 28, 29, 30, 31, 32, 33, 34, 35, 36, 37, 38, 39] (by decide +kernel) (by decide +kernel)
set_option maxRecDepth 20000 in
theorem gX6_isOwedBy_X6_isOwed : GoodIn wsX6_isOwedBy (wsV RX6 135 RX6 yX6_isOwed wsX6_isOwed) := goodIn_app (goodIn_of _ (by decide +kernel)) ggX6_isOwedBy_X6_isOwed
set_option maxRecDepth 20000 in
theorem ggX6_isOwedBy_X2_get : GoodIn wsX6_isOwedBy wsX2_get := goodIn_r _ [15, 16, 12, 17, 7, 9, 8, 10, 11, 36, 37, 38, 39] (by decide +kernel) (by decide +kernel)
set_option maxRecDepth 20000 in
theorem gX6_isOwedBy_X2_get_n139 : GoodIn wsX6_isOwedBy (wsX2_get) := ggX6_isOwedBy_X2_get
theorem dX6_isOwedBy_0 : decode cX6_isOwedBy 0 = .ok (.aload_n 0, 1) := by decide +kernel
theorem dX6_isOwedBy_1 : decode cX6_isOwedBy 1 = .ok (.iload_n 1, 1) := by decide +kernel
theorem dX6_isOwedBy_2 : decode cX6_isOwedBy 2 = .ok (.invokevirtual 135, 3) := by decide +kernel
theorem dX6_isOwedBy_5 : decode cX6_isOwedBy 5 = .ok (.ifCond .eq 20, 3) := by decide +kernel
theorem dX6_isOwedBy_8 : decode cX6_isOwedBy 8 = .ok (.aload_n 0, 1) := by decide +kernel
theorem dX6_isOwedBy_9 : decode cX6_isOwedBy 9 = .ok (.getfield 65, 3) := by decide +kernel
theorem dX6_isOwedBy_12 : decode cX6_isOwedBy 12 = .ok (.iload_n 1, 1) := by decide +kernel
theorem dX6_isOwedBy_13 : decode cX6_isOwedBy 13 = .ok (.iconst 0, 1) := by decide +kernel
theorem dX6_isOwedBy_14 : decode cX6_isOwedBy 14 = .ok (.invokevirtual 139, 3) := by decide +kernel
theorem dX6_isOwedBy_17 : decode cX6_isOwedBy 17 = .ok (.iload_n 2, 1) := by decide +kernel
theorem dX6_isOwedBy_18 : decode cX6_isOwedBy 18 = .ok (.if_icmp .ne 7, 3) := by decide +kernel
theorem dX6_isOwedBy_21 : decode cX6_isOwedBy 21 = .ok (.iconst 1, 1) := by decide +kernel
theorem dX6_isOwedBy_22 : decode cX6_isOwedBy 22 = .ok (.goto 4, 3) := by decide +kernel
theorem dX6_isOwedBy_25 : decode cX6_isOwedBy 25 = .ok (.iconst 0, 1) := by decide +kernel
theorem dX6_isOwedBy_26 : decode cX6_isOwedBy 26 = .ok (.ireturn, 1) := by decide +kernel
set_option maxRecDepth 20000 in
theorem ggX6_leftOf_X6_isOwedBy : GoodIn wsX6_leftOf wsX6_isOwedBy := goodIn_r _ [6, 1, 7, 8, 9, 5, 10, 11, 12, 13, 14, 15, 16, 17, 18, 19, 20, 21, 22, 23, 24, 25, 26, 27, 28, 29, 30, 31, 32, 33, 34, 35, 36, 37, 38, 39, 40, 41, 42, 43] (by decide +kernel) (by decide +kernel)
set_option maxRecDepth 20000 in
theorem gX6_leftOf_X6_isOwedBy : GoodIn wsX6_leftOf (wsV RX6 195 RX6 yX6_isOwedBy wsX6_isOwedBy) := goodIn_app (goodIn_of _ (by decide +kernel)) ggX6_leftOf_X6_isOwedBy
set_option maxRecDepth 20000 in
theorem ggX6_leftOf_X2_get : GoodIn wsX6_leftOf wsX2_get := goodIn_r _ [19, 20, 16, 21, 11, 13, 12, 14, 15, 40, 41, 42, 43] (by decide +kernel) (by decide +kernel)
set_option maxRecDepth 20000 in
theorem gX6_leftOf_X2_get_n139 : GoodIn wsX6_leftOf (wsX2_get) := ggX6_leftOf_X2_get
theorem dX6_leftOf_0 : decode cX6_leftOf 0 = .ok (.lconst 0, 1) := by decide +kernel
theorem dX6_leftOf_1 : decode cX6_leftOf 1 = .ok (.lstore_n 2, 1) := by decide +kernel
theorem dX6_leftOf_2 : decode cX6_leftOf 2 = .ok (.iconst 0, 1) := by decide +kernel
theorem dX6_leftOf_3 : decode cX6_leftOf 3 = .ok (.istore 4, 2) := by decide +kernel
theorem dX6_leftOf_5 : decode cX6_leftOf 5 = .ok (.iload 4, 2) := by decide +kernel
theorem dX6_leftOf_7 : decode cX6_leftOf 7 = .ok (.aload_n 0, 1) := by decide +kernel
theorem dX6_leftOf_8 : decode cX6_leftOf 8 = .ok (.getfield 65, 3) := by decide +kernel
theorem dX6_leftOf_11 : decode cX6_leftOf 11 = .ok (.getfield 155, 3) := by decide +kernel
theorem dX6_leftOf_14 : decode cX6_leftOf 14 = .ok (.if_icmp .ge 33, 3) := by decide +kernel
theorem dX6_leftOf_17 : decode cX6_leftOf 17 = .ok (.aload_n 0, 1) := by decide +kernel
theorem dX6_leftOf_18 : decode cX6_leftOf 18 = .ok (.iload 4, 2) := by decide +kernel
theorem dX6_leftOf_20 : decode cX6_leftOf 20 = .ok (.iload_n 1, 1) := by decide +kernel
theorem dX6_leftOf_21 : decode cX6_leftOf 21 = .ok (.invokevirtual 195, 3) := by decide +kernel
theorem dX6_leftOf_24 : decode cX6_leftOf 24 = .ok (.ifCond .eq 17, 3) := by decide +kernel
theorem dX6_leftOf_27 : decode cX6_leftOf 27 = .ok (.lload_n 2, 1) := by decide +kernel
theorem dX6_leftOf_28 : decode cX6_leftOf 28 = .ok (.aload_n 0, 1) := by decide +kernel
theorem dX6_leftOf_29 : decode cX6_leftOf 29 = .ok (.getfield 65, 3) := by decide +kernel
theorem dX6_leftOf_32 : decode cX6_leftOf 32 = .ok (.iload 4, 2) := by decide +kernel
theorem dX6_leftOf_34 : decode cX6_leftOf 34 = .ok (.iconst 3, 1) := by decide +kernel
theorem dX6_leftOf_35 : decode cX6_leftOf 35 = .ok (.invokevirtual 139, 3) := by decide +kernel
theorem dX6_leftOf_38 : decode cX6_leftOf 38 = .ok (.i2l, 1) := by decide +kernel
theorem dX6_leftOf_39 : decode cX6_leftOf 39 = .ok (.ladd, 1) := by decide +kernel
theorem dX6_leftOf_40 : decode cX6_leftOf 40 = .ok (.lstore_n 2, 1) := by decide +kernel
theorem dX6_leftOf_41 : decode cX6_leftOf 41 = .ok (.iinc 4 1, 3) := by decide +kernel
theorem dX6_leftOf_44 : decode cX6_leftOf 44 = .ok (.goto (-39), 3) := by decide +kernel
theorem dX6_leftOf_47 : decode cX6_leftOf 47 = .ok (.lload_n 2, 1) := by decide +kernel
theorem dX6_leftOf_48 : decode cX6_leftOf 48 = .ok (.lreturn, 1) := by decide +kernel
set_option maxRecDepth 20000 in
theorem ggX6_owedDebtsOf_X6_isOwedBy : GoodIn wsX6_owedDebtsOf wsX6_isOwedBy := goodIn_r _ [6, 1, 7, 8, 9, 5, 10, 11, 12, 13, 14, 15, 16, 17, 18, 19, 20, 21, 22, 23, 24, 25, 26, 27, 28, 29, 30, 31, 32, 33, 34, 35, 36, 37, 38, 39, 40, 41, 42, 43] (by decide +kernel) (by decide +kernel)
set_option maxRecDepth 20000 in
theorem gX6_owedDebtsOf_X6_isOwedBy : GoodIn wsX6_owedDebtsOf (wsV RX6 195 RX6 yX6_isOwedBy wsX6_isOwedBy) := goodIn_app (goodIn_of _ (by decide +kernel)) ggX6_owedDebtsOf_X6_isOwedBy
theorem dX6_owedDebtsOf_0 : decode cX6_owedDebtsOf 0 = .ok (.iconst 0, 1) := by decide +kernel
theorem dX6_owedDebtsOf_1 : decode cX6_owedDebtsOf 1 = .ok (.istore_n 2, 1) := by decide +kernel
theorem dX6_owedDebtsOf_2 : decode cX6_owedDebtsOf 2 = .ok (.iconst 0, 1) := by decide +kernel
theorem dX6_owedDebtsOf_3 : decode cX6_owedDebtsOf 3 = .ok (.istore_n 3, 1) := by decide +kernel
theorem dX6_owedDebtsOf_4 : decode cX6_owedDebtsOf 4 = .ok (.iload_n 3, 1) := by decide +kernel
theorem dX6_owedDebtsOf_5 : decode cX6_owedDebtsOf 5 = .ok (.aload_n 0, 1) := by decide +kernel
theorem dX6_owedDebtsOf_6 : decode cX6_owedDebtsOf 6 = .ok (.getfield 65, 3) := by decide +kernel
theorem dX6_owedDebtsOf_9 : decode cX6_owedDebtsOf 9 = .ok (.getfield 155, 3) := by decide +kernel
theorem dX6_owedDebtsOf_12 : decode cX6_owedDebtsOf 12 = .ok (.if_icmp .ge 21, 3) := by decide +kernel
theorem dX6_owedDebtsOf_15 : decode cX6_owedDebtsOf 15 = .ok (.aload_n 0, 1) := by decide +kernel
theorem dX6_owedDebtsOf_16 : decode cX6_owedDebtsOf 16 = .ok (.iload_n 3, 1) := by decide +kernel
theorem dX6_owedDebtsOf_17 : decode cX6_owedDebtsOf 17 = .ok (.iload_n 1, 1) := by decide +kernel
theorem dX6_owedDebtsOf_18 : decode cX6_owedDebtsOf 18 = .ok (.invokevirtual 195, 3) := by decide +kernel
theorem dX6_owedDebtsOf_21 : decode cX6_owedDebtsOf 21 = .ok (.ifCond .eq 6, 3) := by decide +kernel
theorem dX6_owedDebtsOf_24 : decode cX6_owedDebtsOf 24 = .ok (.iinc 2 1, 3) := by decide +kernel
theorem dX6_owedDebtsOf_27 : decode cX6_owedDebtsOf 27 = .ok (.iinc 3 1, 3) := by decide +kernel
theorem dX6_owedDebtsOf_30 : decode cX6_owedDebtsOf 30 = .ok (.goto (-26), 3) := by decide +kernel
theorem dX6_owedDebtsOf_33 : decode cX6_owedDebtsOf 33 = .ok (.iload_n 2, 1) := by decide +kernel
theorem dX6_owedDebtsOf_34 : decode cX6_owedDebtsOf 34 = .ok (.ireturn, 1) := by decide +kernel
set_option maxRecDepth 20000 in
theorem ggX6_addDebt_X2_add : GoodIn wsX6_addDebt wsX2_add := goodIn_r _ [6, 7, 8, 9, 10, 11, 12, 4, 13, 14, 15, 16, 17, 18, 19, 20, 21, 22, 23, 24, 25, 26, 27, 28, 29, 30, 31, 32, 33, 59, 60, 61, 62] (by decide +kernel) (by decide +kernel)
set_option maxRecDepth 20000 in
theorem gX6_addDebt_X2_add_n123 : GoodIn wsX6_addDebt (wsX2_add) := ggX6_addDebt_X2_add
set_option maxRecDepth 20000 in
theorem ggX6_addDebt_X2_set : GoodIn wsX6_addDebt wsX2_set := goodIn_r _ [36, 9, 8, 37, 38, 39, 4, 40, 7, 59, 60, 61, 62] (by decide +kernel) (by decide +kernel)
set_option maxRecDepth 20000 in
theorem gX6_addDebt_X2_set_n127 : GoodIn wsX6_addDebt (wsX2_set) := ggX6_addDebt_X2_set
theorem dX6_addDebt_0 : decode cX6_addDebt 0 = .ok (.aload_n 0, 1) := by decide +kernel
theorem dX6_addDebt_1 : decode cX6_addDebt 1 = .ok (.getfield 65, 3) := by decide +kernel
theorem dX6_addDebt_4 : decode cX6_addDebt 4 = .ok (.invokevirtual 123, 3) := by decide +kernel
theorem dX6_addDebt_7 : decode cX6_addDebt 7 = .ok (.istore 5, 2) := by decide +kernel
theorem dX6_addDebt_9 : decode cX6_addDebt 9 = .ok (.aload_n 0, 1) := by decide +kernel
theorem dX6_addDebt_10 : decode cX6_addDebt 10 = .ok (.getfield 65, 3) := by decide +kernel
theorem dX6_addDebt_13 : decode cX6_addDebt 13 = .ok (.iload 5, 2) := by decide +kernel
theorem dX6_addDebt_15 : decode cX6_addDebt 15 = .ok (.iconst 0, 1) := by decide +kernel
theorem dX6_addDebt_16 : decode cX6_addDebt 16 = .ok (.iload_n 1, 1) := by decide +kernel
theorem dX6_addDebt_17 : decode cX6_addDebt 17 = .ok (.invokevirtual 127, 3) := by decide +kernel
theorem dX6_addDebt_20 : decode cX6_addDebt 20 = .ok (.aload_n 0, 1) := by decide +kernel
theorem dX6_addDebt_21 : decode cX6_addDebt 21 = .ok (.getfield 65, 3) := by decide +kernel
theorem dX6_addDebt_24 : decode cX6_addDebt 24 = .ok (.iload 5, 2) := by decide +kernel
theorem dX6_addDebt_26 : decode cX6_addDebt 26 = .ok (.iconst 1, 1) := by decide +kernel
theorem dX6_addDebt_27 : decode cX6_addDebt 27 = .ok (.iload_n 2, 1) := by decide +kernel
theorem dX6_addDebt_28 : decode cX6_addDebt 28 = .ok (.invokevirtual 127, 3) := by decide +kernel
theorem dX6_addDebt_31 : decode cX6_addDebt 31 = .ok (.aload_n 0, 1) := by decide +kernel
theorem dX6_addDebt_32 : decode cX6_addDebt 32 = .ok (.getfield 65, 3) := by decide +kernel
theorem dX6_addDebt_35 : decode cX6_addDebt 35 = .ok (.iload 5, 2) := by decide +kernel
theorem dX6_addDebt_37 : decode cX6_addDebt 37 = .ok (.iconst 2, 1) := by decide +kernel
theorem dX6_addDebt_38 : decode cX6_addDebt 38 = .ok (.iload_n 3, 1) := by decide +kernel
theorem dX6_addDebt_39 : decode cX6_addDebt 39 = .ok (.invokevirtual 127, 3) := by decide +kernel
theorem dX6_addDebt_42 : decode cX6_addDebt 42 = .ok (.aload_n 0, 1) := by decide +kernel
theorem dX6_addDebt_43 : decode cX6_addDebt 43 = .ok (.getfield 65, 3) := by decide +kernel
theorem dX6_addDebt_46 : decode cX6_addDebt 46 = .ok (.iload 5, 2) := by decide +kernel
theorem dX6_addDebt_48 : decode cX6_addDebt 48 = .ok (.iconst 3, 1) := by decide +kernel
theorem dX6_addDebt_49 : decode cX6_addDebt 49 = .ok (.iload_n 3, 1) := by decide +kernel
theorem dX6_addDebt_50 : decode cX6_addDebt 50 = .ok (.invokevirtual 127, 3) := by decide +kernel
theorem dX6_addDebt_53 : decode cX6_addDebt 53 = .ok (.aload_n 0, 1) := by decide +kernel
theorem dX6_addDebt_54 : decode cX6_addDebt 54 = .ok (.getfield 65, 3) := by decide +kernel
theorem dX6_addDebt_57 : decode cX6_addDebt 57 = .ok (.iload 5, 2) := by decide +kernel
theorem dX6_addDebt_59 : decode cX6_addDebt 59 = .ok (.iconst 4, 1) := by decide +kernel
theorem dX6_addDebt_60 : decode cX6_addDebt 60 = .ok (.aload_n 0, 1) := by decide +kernel
theorem dX6_addDebt_61 : decode cX6_addDebt 61 = .ok (.getfield 120, 3) := by decide +kernel
theorem dX6_addDebt_64 : decode cX6_addDebt 64 = .ok (.invokevirtual 127, 3) := by decide +kernel
theorem dX6_addDebt_67 : decode cX6_addDebt 67 = .ok (.aload_n 0, 1) := by decide +kernel
theorem dX6_addDebt_68 : decode cX6_addDebt 68 = .ok (.getfield 65, 3) := by decide +kernel
theorem dX6_addDebt_71 : decode cX6_addDebt 71 = .ok (.iload 5, 2) := by decide +kernel
theorem dX6_addDebt_73 : decode cX6_addDebt 73 = .ok (.iconst 5, 1) := by decide +kernel
theorem dX6_addDebt_74 : decode cX6_addDebt 74 = .ok (.iload 4, 2) := by decide +kernel
theorem dX6_addDebt_76 : decode cX6_addDebt 76 = .ok (.invokevirtual 127, 3) := by decide +kernel
theorem dX6_addDebt_79 : decode cX6_addDebt 79 = .ok (.iload 5, 2) := by decide +kernel
theorem dX6_addDebt_81 : decode cX6_addDebt 81 = .ok (.ireturn, 1) := by decide +kernel
theorem dX6_shiresOwing_0 : decode cX6_shiresOwing 0 = .ok (.iconst 0, 1) := by decide +kernel
theorem dX6_shiresOwing_1 : decode cX6_shiresOwing 1 = .ok (.istore_n 1, 1) := by decide +kernel
theorem dX6_shiresOwing_2 : decode cX6_shiresOwing 2 = .ok (.iconst 0, 1) := by decide +kernel
theorem dX6_shiresOwing_3 : decode cX6_shiresOwing 3 = .ok (.istore_n 2, 1) := by decide +kernel
theorem dX6_shiresOwing_4 : decode cX6_shiresOwing 4 = .ok (.iload_n 2, 1) := by decide +kernel
theorem dX6_shiresOwing_5 : decode cX6_shiresOwing 5 = .ok (.bipush 8, 2) := by decide +kernel
theorem dX6_shiresOwing_7 : decode cX6_shiresOwing 7 = .ok (.if_icmp .ge 31, 3) := by decide +kernel
theorem dX6_shiresOwing_10 : decode cX6_shiresOwing 10 = .ok (.aload_n 0, 1) := by decide +kernel
theorem dX6_shiresOwing_11 : decode cX6_shiresOwing 11 = .ok (.getfield 59, 3) := by decide +kernel
theorem dX6_shiresOwing_14 : decode cX6_shiresOwing 14 = .ok (.iload_n 2, 1) := by decide +kernel
theorem dX6_shiresOwing_15 : decode cX6_shiresOwing 15 = .ok (.iaload, 1) := by decide +kernel
theorem dX6_shiresOwing_16 : decode cX6_shiresOwing 16 = .ok (.ifCond .le 16, 3) := by decide +kernel
theorem dX6_shiresOwing_19 : decode cX6_shiresOwing 19 = .ok (.aload_n 0, 1) := by decide +kernel
theorem dX6_shiresOwing_20 : decode cX6_shiresOwing 20 = .ok (.getfield 62, 3) := by decide +kernel
theorem dX6_shiresOwing_23 : decode cX6_shiresOwing 23 = .ok (.iload_n 2, 1) := by decide +kernel
theorem dX6_shiresOwing_24 : decode cX6_shiresOwing 24 = .ok (.iaload, 1) := by decide +kernel
theorem dX6_shiresOwing_25 : decode cX6_shiresOwing 25 = .ok (.iconst (-1), 1) := by decide +kernel
theorem dX6_shiresOwing_26 : decode cX6_shiresOwing 26 = .ok (.if_icmp .eq 6, 3) := by decide +kernel
theorem dX6_shiresOwing_29 : decode cX6_shiresOwing 29 = .ok (.iinc 1 1, 3) := by decide +kernel
theorem dX6_shiresOwing_32 : decode cX6_shiresOwing 32 = .ok (.iinc 2 1, 3) := by decide +kernel
theorem dX6_shiresOwing_35 : decode cX6_shiresOwing 35 = .ok (.goto (-31), 3) := by decide +kernel
theorem dX6_shiresOwing_38 : decode cX6_shiresOwing 38 = .ok (.iload_n 1, 1) := by decide +kernel
theorem dX6_shiresOwing_39 : decode cX6_shiresOwing 39 = .ok (.ireturn, 1) := by decide +kernel
set_option maxRecDepth 20000 in
theorem ggX6_addFarmDebts_X6_addDebt : GoodIn wsX6_addFarmDebts wsX6_addDebt := goodIn_r _ [7, 8, 9, 10, 11, 12, 13, 14, 15, 16, 17, 18, 19, 20, 21, 22, 23, 24, 25, 26, 27, 28, 29, 30, 31, 32, 33, 34, 35, 36, 37, 38, 39, 40, 41, 42, 43, 44, 45, 46, 47, 48, 49, 50, 51, 52, 53, 54, 55, 56, 57, 58, 59, 60, 61, 62, 63, 64, 65, 66, 67, 68, 69] (by decide +kernel) (by decide +kernel)
set_option maxRecDepth 20000 in
theorem gX6_addFarmDebts_X6_addDebt : GoodIn wsX6_addFarmDebts (wsV RX6 173 RX6 yX6_addDebt wsX6_addDebt) := goodIn_app (goodIn_of _ (by decide +kernel)) ggX6_addFarmDebts_X6_addDebt
theorem dX6_addFarmDebts_0 : decode cX6_addFarmDebts 0 = .ok (.iconst 0, 1) := by decide +kernel
theorem dX6_addFarmDebts_1 : decode cX6_addFarmDebts 1 = .ok (.istore_n 1, 1) := by decide +kernel
theorem dX6_addFarmDebts_2 : decode cX6_addFarmDebts 2 = .ok (.iload_n 1, 1) := by decide +kernel
theorem dX6_addFarmDebts_3 : decode cX6_addFarmDebts 3 = .ok (.bipush 8, 2) := by decide +kernel
theorem dX6_addFarmDebts_5 : decode cX6_addFarmDebts 5 = .ok (.if_icmp .ge 47, 3) := by decide +kernel
theorem dX6_addFarmDebts_8 : decode cX6_addFarmDebts 8 = .ok (.aload_n 0, 1) := by decide +kernel
theorem dX6_addFarmDebts_9 : decode cX6_addFarmDebts 9 = .ok (.getfield 59, 3) := by decide +kernel
theorem dX6_addFarmDebts_12 : decode cX6_addFarmDebts 12 = .ok (.iload_n 1, 1) := by decide +kernel
theorem dX6_addFarmDebts_13 : decode cX6_addFarmDebts 13 = .ok (.iaload, 1) := by decide +kernel
theorem dX6_addFarmDebts_14 : decode cX6_addFarmDebts 14 = .ok (.ifCond .le 32, 3) := by decide +kernel
theorem dX6_addFarmDebts_17 : decode cX6_addFarmDebts 17 = .ok (.aload_n 0, 1) := by decide +kernel
theorem dX6_addFarmDebts_18 : decode cX6_addFarmDebts 18 = .ok (.getfield 62, 3) := by decide +kernel
theorem dX6_addFarmDebts_21 : decode cX6_addFarmDebts 21 = .ok (.iload_n 1, 1) := by decide +kernel
theorem dX6_addFarmDebts_22 : decode cX6_addFarmDebts 22 = .ok (.iaload, 1) := by decide +kernel
theorem dX6_addFarmDebts_23 : decode cX6_addFarmDebts 23 = .ok (.iconst (-1), 1) := by decide +kernel
theorem dX6_addFarmDebts_24 : decode cX6_addFarmDebts 24 = .ok (.if_icmp .eq 22, 3) := by decide +kernel
theorem dX6_addFarmDebts_27 : decode cX6_addFarmDebts 27 = .ok (.aload_n 0, 1) := by decide +kernel
theorem dX6_addFarmDebts_28 : decode cX6_addFarmDebts 28 = .ok (.aload_n 0, 1) := by decide +kernel
theorem dX6_addFarmDebts_29 : decode cX6_addFarmDebts 29 = .ok (.getfield 62, 3) := by decide +kernel
theorem dX6_addFarmDebts_32 : decode cX6_addFarmDebts 32 = .ok (.iload_n 1, 1) := by decide +kernel
theorem dX6_addFarmDebts_33 : decode cX6_addFarmDebts 33 = .ok (.iaload, 1) := by decide +kernel
theorem dX6_addFarmDebts_34 : decode cX6_addFarmDebts 34 = .ok (.iconst 0, 1) := by decide +kernel
theorem dX6_addFarmDebts_35 : decode cX6_addFarmDebts 35 = .ok (.aload_n 0, 1) := by decide +kernel
theorem dX6_addFarmDebts_36 : decode cX6_addFarmDebts 36 = .ok (.getfield 59, 3) := by decide +kernel
theorem dX6_addFarmDebts_39 : decode cX6_addFarmDebts 39 = .ok (.iload_n 1, 1) := by decide +kernel
theorem dX6_addFarmDebts_40 : decode cX6_addFarmDebts 40 = .ok (.iaload, 1) := by decide +kernel
theorem dX6_addFarmDebts_41 : decode cX6_addFarmDebts 41 = .ok (.iconst (-1), 1) := by decide +kernel
theorem dX6_addFarmDebts_42 : decode cX6_addFarmDebts 42 = .ok (.invokevirtual 173, 3) := by decide +kernel
theorem dX6_addFarmDebts_45 : decode cX6_addFarmDebts 45 = .ok (.pop, 1) := by decide +kernel
theorem dX6_addFarmDebts_46 : decode cX6_addFarmDebts 46 = .ok (.iinc 1 1, 3) := by decide +kernel
theorem dX6_addFarmDebts_49 : decode cX6_addFarmDebts 49 = .ok (.goto (-47), 3) := by decide +kernel
theorem dX6_addFarmDebts_52 : decode cX6_addFarmDebts 52 = .ok (.return_, 1) := by decide +kernel
set_option maxRecDepth 20000 in
theorem ggX6_moveDebt_X2_set : GoodIn wsX6_moveDebt wsX2_set := goodIn_r _ [5, 6, 7, 8, 9, 10, 3, 11, 12, 34, 35, 36, 37] (by decide +kernel) (by decide +kernel)
set_option maxRecDepth 20000 in
theorem gX6_moveDebt_X2_set_n127 : GoodIn wsX6_moveDebt (wsX2_set) := ggX6_moveDebt_X2_set
set_option maxRecDepth 20000 in
theorem ggX6_moveDebt_X2_get : GoodIn wsX6_moveDebt wsX2_get := goodIn_r _ [15, 6, 7, 8, 9, 10, 3, 11, 12, 34, 35, 36, 37] (by decide +kernel) (by decide +kernel)
set_option maxRecDepth 20000 in
theorem gX6_moveDebt_X2_get_n139 : GoodIn wsX6_moveDebt (wsX2_get) := ggX6_moveDebt_X2_get
theorem dX6_moveDebt_0 : decode cX6_moveDebt 0 = .ok (.aload_n 0, 1) := by decide +kernel
theorem dX6_moveDebt_1 : decode cX6_moveDebt 1 = .ok (.getfield 65, 3) := by decide +kernel
theorem dX6_moveDebt_4 : decode cX6_moveDebt 4 = .ok (.iload_n 1, 1) := by decide +kernel
theorem dX6_moveDebt_5 : decode cX6_moveDebt 5 = .ok (.iconst 0, 1) := by decide +kernel
theorem dX6_moveDebt_6 : decode cX6_moveDebt 6 = .ok (.iload_n 2, 1) := by decide +kernel
theorem dX6_moveDebt_7 : decode cX6_moveDebt 7 = .ok (.invokevirtual 127, 3) := by decide +kernel
theorem dX6_moveDebt_10 : decode cX6_moveDebt 10 = .ok (.aload_n 0, 1) := by decide +kernel
theorem dX6_moveDebt_11 : decode cX6_moveDebt 11 = .ok (.getfield 65, 3) := by decide +kernel
theorem dX6_moveDebt_14 : decode cX6_moveDebt 14 = .ok (.iload_n 1, 1) := by decide +kernel
theorem dX6_moveDebt_15 : decode cX6_moveDebt 15 = .ok (.iconst 5, 1) := by decide +kernel
theorem dX6_moveDebt_16 : decode cX6_moveDebt 16 = .ok (.invokevirtual 139, 3) := by decide +kernel
theorem dX6_moveDebt_19 : decode cX6_moveDebt 19 = .ok (.iload_n 2, 1) := by decide +kernel
theorem dX6_moveDebt_20 : decode cX6_moveDebt 20 = .ok (.if_icmp .ne 13, 3) := by decide +kernel
theorem dX6_moveDebt_23 : decode cX6_moveDebt 23 = .ok (.aload_n 0, 1) := by decide +kernel
theorem dX6_moveDebt_24 : decode cX6_moveDebt 24 = .ok (.getfield 65, 3) := by decide +kernel
theorem dX6_moveDebt_27 : decode cX6_moveDebt 27 = .ok (.iload_n 1, 1) := by decide +kernel
theorem dX6_moveDebt_28 : decode cX6_moveDebt 28 = .ok (.iconst 5, 1) := by decide +kernel
theorem dX6_moveDebt_29 : decode cX6_moveDebt 29 = .ok (.iconst (-1), 1) := by decide +kernel
theorem dX6_moveDebt_30 : decode cX6_moveDebt 30 = .ok (.invokevirtual 127, 3) := by decide +kernel
theorem dX6_moveDebt_33 : decode cX6_moveDebt 33 = .ok (.return_, 1) := by decide +kernel
set_option maxRecDepth 20000 in
theorem ggX6_askAll_X6_textInForce : GoodIn wsX6_askAll wsX6_textInForce := goodIn_r _ [7, 8, 9, 10, 11, 12, 13, 14, 15, 16, 17, 18, 19, 153, 154, 155, 156, 157, 158, 159, 160, 161, 162, 163, 164, 165, 166, 167, 168, 169, 170, 171, 172, 173, 174] (by decide +kernel) (by decide +kernel)
set_option maxRecDepth 20000 in
theorem gX6_askAll_X6_textInForce : GoodIn wsX6_askAll (wsV RX6 131 RX6 yX6_textInForce wsX6_textInForce) := goodIn_app (goodIn_of _ (by decide +kernel)) ggX6_askAll_X6_textInForce
set_option maxRecDepth 20000 in
theorem ggX6_askAll_X6_leftOf : GoodIn wsX6_askAll wsX6_leftOf := goodIn_r _ [23, 2, 24, 25, 26, 6, 27, 28, 29, 30, 31, 16, 10, 17, 18, 19, 14, 9, 11, 12, 13, 15, 153, 154, 155, 156, 157, 158, 159, 160, 161, 162, 163, 164, 165, 166, 167, 168, 169, 170, 171, 172, 173, 174] (by decide +kernel) (by decide +kernel)
set_option maxRecDepth 20000 in
theorem gX6_askAll_X6_leftOf : GoodIn wsX6_askAll (wsV RX6 143 RX6 yX6_leftOf wsX6_leftOf) := goodIn_app (goodIn_of _ (by decide +kernel)) ggX6_askAll_X6_leftOf
set_option maxRecDepth 20000 in
theorem ggX6_askAll_X6_isOwedBy : GoodIn wsX6_askAll wsX6_isOwedBy := goodIn_r _ [27, 2, 28, 29, 30, 6, 31, 16, 10, 17, 18, 19, 14, 9, 11, 12, 13, 15, 153, 154, 155, 156, 157, 158, 159, 160, 161, 162, 163, 164, 165, 166, 167, 168, 169, 170, 171, 172, 173, 174] (by decide +kernel) (by decide +kernel)
set_option maxRecDepth 20000 in
theorem gX6_askAll_X6_isOwedBy : GoodIn wsX6_askAll (wsV RX6 195 RX6 yX6_isOwedBy wsX6_isOwedBy) := goodIn_app (goodIn_of _ (by decide +kernel)) ggX6_askAll_X6_isOwedBy
set_option maxRecDepth 20000 in
theorem ggX6_askAll_X2_get : GoodIn wsX6_askAll wsX2_get := goodIn_r _ [12, 13, 14, 15, 16, 17, 10, 18, 19, 171, 172, 173, 174] (by decide +kernel) (by decide +kernel)
set_option maxRecDepth 20000 in
theorem gX6_askAll_X2_get_n139 : GoodIn wsX6_askAll (wsX2_get) := ggX6_askAll_X2_get
set_option maxRecDepth 20000 in
theorem ggX6_askAll_X6_tellWeigher : GoodIn wsX6_askAll wsX6_tellWeigher := goodIn_r _ [35, 36, 2, 1, 9, 10, 11, 12, 13, 14, 15, 16, 17, 18, 19, 37, 38, 39, 40, 41, 42, 43, 44, 6, 45, 46, 47, 48, 49, 153, 154, 155, 156, 157, 158, 159, 160, 161, 162, 163, 164, 165, 166, 167, 168, 169, 170, 171, 172, 173, 174, 175, 176, 177] (by decide +kernel) (by decide +kernel)
set_option maxRecDepth 20000 in
theorem gX6_askAll_X6_tellWeigher : GoodIn wsX6_askAll (wsV RX6 147 RX6 yX6_tellWeigher wsX6_tellWeigher) := goodIn_app (goodIn_of _ (by decide +kernel)) ggX6_askAll_X6_tellWeigher
set_option maxRecDepth 20000 in
theorem ggX6_askAll_X6_askDebt : GoodIn wsX6_askAll wsX6_askDebt := goodIn_r _ [53, 36, 2, 54, 55, 56, 57, 58, 59, 60, 61, 6, 62, 63, 64, 65, 38, 66, 67, 68, 69, 70, 71, 72, 73, 74, 75, 76, 77, 78, 79, 80, 81, 82, 83, 84, 85, 41, 86, 87, 88, 89, 90, 91, 92, 93, 94, 95, 96, 97, 98, 99, 100, 101, 102, 103, 104, 105, 9, 10, 11, 12, 13, 14, 15, 16, 17, 18, 19, 106, 107, 108, 109, 110, 111, 112, 113, 114, 115, 116, 117, 118, 119, 120, 121, 122, 123, 124, 125, 126, 127, 128, 129, 130, 131, 132, 133, 134, 135, 136, 137, 138, 139, 140, 141, 142, 143, 1, 144, 145, 146, 147, 148, 46, 149, 150, 151, 152, 47, 48, 49, 153, 154, 155, 156, 157, 158, 159, 160, 161, 162, 163, 164, 165, 166, 167, 168, 169, 170, 171, 172, 173, 174, 178, 179, 180, 181, 175, 176, 177] (by decide +kernel) (by decide +kernel)
set_option maxRecDepth 20000 in
theorem gX6_askAll_X6_askDebt : GoodIn wsX6_askAll (wsV RX6 207 RX6 yX6_askDebt wsX6_askDebt) := goodIn_app (goodIn_of _ (by decide +kernel)) ggX6_askAll_X6_askDebt
theorem dX6_askAll_0 : decode cX6_askAll 0 = .ok (.aload_n 0, 1) := by decide +kernel
theorem dX6_askAll_1 : decode cX6_askAll 1 = .ok (.aload_n 0, 1) := by decide +kernel
theorem dX6_askAll_2 : decode cX6_askAll 2 = .ok (.getfield 120, 3) := by decide +kernel
theorem dX6_askAll_5 : decode cX6_askAll 5 = .ok (.invokevirtual 131, 3) := by decide +kernel
theorem dX6_askAll_8 : decode cX6_askAll 8 = .ok (.istore 4, 2) := by decide +kernel
theorem dX6_askAll_10 : decode cX6_askAll 10 = .ok (.aload_n 0, 1) := by decide +kernel
theorem dX6_askAll_11 : decode cX6_askAll 11 = .ok (.iload_n 1, 1) := by decide +kernel
theorem dX6_askAll_12 : decode cX6_askAll 12 = .ok (.invokevirtual 143, 3) := by decide +kernel
theorem dX6_askAll_15 : decode cX6_askAll 15 = .ok (.lstore 5, 2) := by decide +kernel
theorem dX6_askAll_17 : decode cX6_askAll 17 = .ok (.lconst 0, 1) := by decide +kernel
theorem dX6_askAll_18 : decode cX6_askAll 18 = .ok (.lstore 7, 2) := by decide +kernel
theorem dX6_askAll_20 : decode cX6_askAll 20 = .ok (.iconst 0, 1) := by decide +kernel
theorem dX6_askAll_21 : decode cX6_askAll 21 = .ok (.istore 9, 2) := by decide +kernel
theorem dX6_askAll_23 : decode cX6_askAll 23 = .ok (.iload 9, 2) := by decide +kernel
theorem dX6_askAll_25 : decode cX6_askAll 25 = .ok (.aload_n 0, 1) := by decide +kernel
theorem dX6_askAll_26 : decode cX6_askAll 26 = .ok (.getfield 65, 3) := by decide +kernel
theorem dX6_askAll_29 : decode cX6_askAll 29 = .ok (.getfield 155, 3) := by decide +kernel
theorem dX6_askAll_32 : decode cX6_askAll 32 = .ok (.if_icmp .ge 100, 3) := by decide +kernel
theorem dX6_askAll_35 : decode cX6_askAll 35 = .ok (.aload_n 0, 1) := by decide +kernel
theorem dX6_askAll_36 : decode cX6_askAll 36 = .ok (.iload 9, 2) := by decide +kernel
theorem dX6_askAll_38 : decode cX6_askAll 38 = .ok (.iload_n 1, 1) := by decide +kernel
theorem dX6_askAll_39 : decode cX6_askAll 39 = .ok (.invokevirtual 195, 3) := by decide +kernel
theorem dX6_askAll_42 : decode cX6_askAll 42 = .ok (.ifCond .eq 84, 3) := by decide +kernel
theorem dX6_askAll_45 : decode cX6_askAll 45 = .ok (.aload_n 0, 1) := by decide +kernel
theorem dX6_askAll_46 : decode cX6_askAll 46 = .ok (.getfield 65, 3) := by decide +kernel
theorem dX6_askAll_49 : decode cX6_askAll 49 = .ok (.iload 9, 2) := by decide +kernel
theorem dX6_askAll_51 : decode cX6_askAll 51 = .ok (.iconst 3, 1) := by decide +kernel
theorem dX6_askAll_52 : decode cX6_askAll 52 = .ok (.invokevirtual 139, 3) := by decide +kernel
theorem dX6_askAll_55 : decode cX6_askAll 55 = .ok (.istore 10, 2) := by decide +kernel
theorem dX6_askAll_57 : decode cX6_askAll 57 = .ok (.lload_n 2, 1) := by decide +kernel
theorem dX6_askAll_58 : decode cX6_askAll 58 = .ok (.lload 7, 2) := by decide +kernel
theorem dX6_askAll_60 : decode cX6_askAll 60 = .ok (.lsub, 1) := by decide +kernel
theorem dX6_askAll_61 : decode cX6_askAll 61 = .ok (.lstore 11, 2) := by decide +kernel
theorem dX6_askAll_63 : decode cX6_askAll 63 = .ok (.aload_n 0, 1) := by decide +kernel
theorem dX6_askAll_64 : decode cX6_askAll 64 = .ok (.iload 9, 2) := by decide +kernel
theorem dX6_askAll_66 : decode cX6_askAll 66 = .ok (.lload 5, 2) := by decide +kernel
theorem dX6_askAll_68 : decode cX6_askAll 68 = .ok (.lload 11, 2) := by decide +kernel
theorem dX6_askAll_70 : decode cX6_askAll 70 = .ok (.lload 7, 2) := by decide +kernel
theorem dX6_askAll_72 : decode cX6_askAll 72 = .ok (.invokevirtual 147, 3) := by decide +kernel
theorem dX6_askAll_75 : decode cX6_askAll 75 = .ok (.lload 7, 2) := by decide +kernel
theorem dX6_askAll_77 : decode cX6_askAll 77 = .ok (.aload_n 0, 1) := by decide +kernel
theorem dX6_askAll_78 : decode cX6_askAll 78 = .ok (.iload 9, 2) := by decide +kernel
theorem dX6_askAll_80 : decode cX6_askAll 80 = .ok (.iload_n 1, 1) := by decide +kernel
theorem dX6_askAll_81 : decode cX6_askAll 81 = .ok (.iload 4, 2) := by decide +kernel
theorem dX6_askAll_83 : decode cX6_askAll 83 = .ok (.lload 11, 2) := by decide +kernel
theorem dX6_askAll_85 : decode cX6_askAll 85 = .ok (.invokevirtual 207, 3) := by decide +kernel
theorem dX6_askAll_88 : decode cX6_askAll 88 = .ok (.i2l, 1) := by decide +kernel
theorem dX6_askAll_89 : decode cX6_askAll 89 = .ok (.ladd, 1) := by decide +kernel
theorem dX6_askAll_90 : decode cX6_askAll 90 = .ok (.lstore 7, 2) := by decide +kernel
theorem dX6_askAll_92 : decode cX6_askAll 92 = .ok (.lload 5, 2) := by decide +kernel
theorem dX6_askAll_94 : decode cX6_askAll 94 = .ok (.iload 10, 2) := by decide +kernel
theorem dX6_askAll_96 : decode cX6_askAll 96 = .ok (.i2l, 1) := by decide +kernel
theorem dX6_askAll_97 : decode cX6_askAll 97 = .ok (.lsub, 1) := by decide +kernel
theorem dX6_askAll_98 : decode cX6_askAll 98 = .ok (.lstore 5, 2) := by decide +kernel
theorem dX6_askAll_100 : decode cX6_askAll 100 = .ok (.aload_n 0, 1) := by decide +kernel
theorem dX6_askAll_101 : decode cX6_askAll 101 = .ok (.iload 9, 2) := by decide +kernel
theorem dX6_askAll_103 : decode cX6_askAll 103 = .ok (.iload_n 1, 1) := by decide +kernel
theorem dX6_askAll_104 : decode cX6_askAll 104 = .ok (.invokevirtual 195, 3) := by decide +kernel
theorem dX6_askAll_107 : decode cX6_askAll 107 = .ok (.ifCond .eq 19, 3) := by decide +kernel
theorem dX6_askAll_110 : decode cX6_askAll 110 = .ok (.lload 5, 2) := by decide +kernel
theorem dX6_askAll_112 : decode cX6_askAll 112 = .ok (.aload_n 0, 1) := by decide +kernel
theorem dX6_askAll_113 : decode cX6_askAll 113 = .ok (.getfield 65, 3) := by decide +kernel
theorem dX6_askAll_116 : decode cX6_askAll 116 = .ok (.iload 9, 2) := by decide +kernel
theorem dX6_askAll_118 : decode cX6_askAll 118 = .ok (.iconst 3, 1) := by decide +kernel
theorem dX6_askAll_119 : decode cX6_askAll 119 = .ok (.invokevirtual 139, 3) := by decide +kernel
theorem dX6_askAll_122 : decode cX6_askAll 122 = .ok (.i2l, 1) := by decide +kernel
theorem dX6_askAll_123 : decode cX6_askAll 123 = .ok (.ladd, 1) := by decide +kernel
theorem dX6_askAll_124 : decode cX6_askAll 124 = .ok (.lstore 5, 2) := by decide +kernel
theorem dX6_askAll_126 : decode cX6_askAll 126 = .ok (.iinc 9 1, 3) := by decide +kernel
theorem dX6_askAll_129 : decode cX6_askAll 129 = .ok (.goto (-106), 3) := by decide +kernel
theorem dX6_askAll_132 : decode cX6_askAll 132 = .ok (.lload 7, 2) := by decide +kernel
theorem dX6_askAll_134 : decode cX6_askAll 134 = .ok (.lreturn, 1) := by decide +kernel
set_option maxRecDepth 20000 in
theorem ggX6_askDebt_X6_textOf : GoodIn wsX6_askDebt wsX6_textOf := goodIn_r _ [12, 13, 14, 121, 122, 123, 124, 125, 126, 127, 128, 129, 130, 131, 132, 133, 134, 135, 136, 137, 138] (by decide +kernel) (by decide +kernel)
set_option maxRecDepth 20000 in
theorem gX6_askDebt_X6_textOf : GoodIn wsX6_askDebt (wsV RX6 113 RX6 yX6_textOf wsX6_textOf) := goodIn_app (goodIn_of _ (by decide +kernel)) ggX6_askDebt_X6_textOf
set_option maxRecDepth 20000 in
theorem ggX6_askDebt_X5_firstHeld : GoodIn wsX6_askDebt wsX5_firstHeld := goodIn_r _ [18, 19, 20, 21, 16, 22, 23, 24, 25, 26, 27, 28, 29, 30, 31, 32, 33, 34, 35, 36, 37, 38, 39, 40, 41, 42, 43, 44, 45, 46, 47, 48, 49, 143, 144, 145, 146, 147, 148, 149] (by decide +kernel) (by decide +kernel)
set_option maxRecDepth 20000 in
theorem gX6_askDebt_X5_firstHeld_n151 : GoodIn wsX6_askDebt (wsX5_firstHeld) := ggX6_askDebt_X5_firstHeld
set_option maxRecDepth 20000 in
theorem ggX6_askDebt_X4_actOf : GoodIn wsX6_askDebt wsX4_actOf := goodIn_r _ [52, 53, 143, 144, 145, 146] (by decide +kernel) (by decide +kernel)
set_option maxRecDepth 20000 in
theorem gX6_askDebt_X4_actOf_n211 : GoodIn wsX6_askDebt (wsX4_actOf) := ggX6_askDebt_X4_actOf
set_option maxRecDepth 20000 in
theorem ggX6_askDebt_X4_shareOf : GoodIn wsX6_askDebt wsX4_shareOf := goodIn_r _ [56, 57, 143, 144, 145, 146] (by decide +kernel) (by decide +kernel)
set_option maxRecDepth 20000 in
theorem gX6_askDebt_X4_shareOf_n214 : GoodIn wsX6_askDebt (wsX4_shareOf) := ggX6_askDebt_X4_shareOf
set_option maxRecDepth 20000 in
theorem ggX6_askDebt_X2_get : GoodIn wsX6_askDebt wsX2_get := goodIn_r _ [61, 62, 63, 64, 65, 66, 59, 67, 68, 139, 140, 141, 142] (by decide +kernel) (by decide +kernel)
set_option maxRecDepth 20000 in
theorem gX6_askDebt_X2_get_n139 : GoodIn wsX6_askDebt (wsX2_get) := ggX6_askDebt_X2_get
set_option maxRecDepth 20000 in
theorem ggX6_askDebt_X6_splitStick : GoodIn wsX6_askDebt wsX6_splitStick := goodIn_r _ [72, 73, 74, 59, 75, 76, 68, 63, 62, 77, 78, 79, 80, 81, 82, 83, 84, 85, 86, 87, 88, 89, 90, 91, 92, 93, 94, 5, 95, 96, 97, 98, 99, 100, 101, 102, 64, 65, 66, 67, 121, 122, 123, 124, 125, 126, 127, 128, 129, 130, 131, 132, 133, 134, 135, 136, 137, 138, 139, 140, 141, 142] (by decide +kernel) (by decide +kernel)
set_option maxRecDepth 20000 in
theorem gX6_askDebt_X6_splitStick : GoodIn wsX6_askDebt (wsV RX6 223 RX6 yX6_splitStick wsX6_splitStick) := goodIn_app (goodIn_of _ (by decide +kernel)) ggX6_askDebt_X6_splitStick
set_option maxRecDepth 20000 in
theorem ggX6_askDebt_X6_writeLine : GoodIn wsX6_askDebt wsX6_writeLine := goodIn_r _ [106, 7, 107, 74, 59, 75, 76, 68, 63, 62, 77, 78, 79, 80, 81, 82, 83, 84, 85, 86, 87, 88, 89, 90, 91, 92, 93, 94, 5, 95, 96, 97, 98, 99, 100, 101, 102, 64, 65, 66, 67, 121, 122, 123, 124, 125, 126, 127, 128, 129, 130, 131, 132, 133, 134, 135, 136, 137, 138, 139, 140, 141, 142] (by decide +kernel) (by decide +kernel)
set_option maxRecDepth 20000 in
theorem gX6_askDebt_X6_writeLine : GoodIn wsX6_askDebt (wsV RX6 226 RX6 yX6_writeLine wsX6_writeLine) := goodIn_app (goodIn_of _ (by decide +kernel)) ggX6_askDebt_X6_writeLine
set_option maxRecDepth 20000 in
theorem ggX6_askDebt_X2_set : GoodIn wsX6_askDebt wsX2_set := goodIn_r _ [102, 62, 63, 64, 65, 66, 59, 67, 68, 139, 140, 141, 142] (by decide +kernel) (by decide +kernel)
set_option maxRecDepth 20000 in
theorem gX6_askDebt_X2_set_n127 : GoodIn wsX6_askDebt (wsX2_set) := ggX6_askDebt_X2_set
set_option maxRecDepth 20000 in
theorem ggX6_askDebt_X6_doAct : GoodIn wsX6_askDebt wsX6_doAct := goodIn_r _ [111, 2, 112, 113, 58, 59, 60, 61, 62, 63, 64, 65, 66, 67, 68, 100, 101, 102, 114, 115, 116, 11, 117, 118, 119, 120, 121, 122, 123, 124, 125, 126, 127, 128, 129, 130, 131, 132, 133, 134, 135, 136, 137, 138, 139, 140, 141, 142] (by decide +kernel) (by decide +kernel)
set_option maxRecDepth 20000 in
theorem gX6_askDebt_X6_doAct : GoodIn wsX6_askDebt (wsV RX6 230 RX6 yX6_doAct wsX6_doAct) := goodIn_app (goodIn_of _ (by decide +kernel)) ggX6_askDebt_X6_doAct
theorem dX6_askDebt_0 : decode cX6_askDebt 0 = .ok (.aload_n 0, 1) := by decide +kernel
theorem dX6_askDebt_1 : decode cX6_askDebt 1 = .ok (.iload_n 3, 1) := by decide +kernel
theorem dX6_askDebt_2 : decode cX6_askDebt 2 = .ok (.invokevirtual 113, 3) := by decide +kernel
theorem dX6_askDebt_5 : decode cX6_askDebt 5 = .ok (.astore 6, 2) := by decide +kernel
theorem dX6_askDebt_7 : decode cX6_askDebt 7 = .ok (.aload 6, 2) := by decide +kernel
theorem dX6_askDebt_9 : decode cX6_askDebt 9 = .ok (.ifnonnull 7, 3) := by decide +kernel
theorem dX6_askDebt_12 : decode cX6_askDebt 12 = .ok (.iconst (-1), 1) := by decide +kernel
theorem dX6_askDebt_13 : decode cX6_askDebt 13 = .ok (.goto 12, 3) := by decide +kernel
theorem dX6_askDebt_16 : decode cX6_askDebt 16 = .ok (.aload_n 0, 1) := by decide +kernel
theorem dX6_askDebt_17 : decode cX6_askDebt 17 = .ok (.getfield 28, 3) := by decide +kernel
theorem dX6_askDebt_20 : decode cX6_askDebt 20 = .ok (.aload 6, 2) := by decide +kernel
theorem dX6_askDebt_22 : decode cX6_askDebt 22 = .ok (.invokevirtual 151, 3) := by decide +kernel
theorem dX6_askDebt_25 : decode cX6_askDebt 25 = .ok (.istore 7, 2) := by decide +kernel
theorem dX6_askDebt_27 : decode cX6_askDebt 27 = .ok (.aload 6, 2) := by decide +kernel
theorem dX6_askDebt_29 : decode cX6_askDebt 29 = .ok (.ifnonnull 7, 3) := by decide +kernel
theorem dX6_askDebt_32 : decode cX6_askDebt 32 = .ok (.iconst 2, 1) := by decide +kernel
theorem dX6_askDebt_33 : decode cX6_askDebt 33 = .ok (.goto 10, 3) := by decide +kernel
theorem dX6_askDebt_36 : decode cX6_askDebt 36 = .ok (.aload 6, 2) := by decide +kernel
theorem dX6_askDebt_38 : decode cX6_askDebt 38 = .ok (.iload 7, 2) := by decide +kernel
theorem dX6_askDebt_40 : decode cX6_askDebt 40 = .ok (.invokevirtual 211, 3) := by decide +kernel
theorem dX6_askDebt_43 : decode cX6_askDebt 43 = .ok (.istore 8, 2) := by decide +kernel
theorem dX6_askDebt_45 : decode cX6_askDebt 45 = .ok (.aload 6, 2) := by decide +kernel
theorem dX6_askDebt_47 : decode cX6_askDebt 47 = .ok (.ifnonnull 7, 3) := by decide +kernel
theorem dX6_askDebt_50 : decode cX6_askDebt 50 = .ok (.iconst 0, 1) := by decide +kernel
theorem dX6_askDebt_51 : decode cX6_askDebt 51 = .ok (.goto 10, 3) := by decide +kernel
theorem dX6_askDebt_54 : decode cX6_askDebt 54 = .ok (.aload 6, 2) := by decide +kernel
theorem dX6_askDebt_56 : decode cX6_askDebt 56 = .ok (.iload 7, 2) := by decide +kernel
theorem dX6_askDebt_58 : decode cX6_askDebt 58 = .ok (.invokevirtual 214, 3) := by decide +kernel
theorem dX6_askDebt_61 : decode cX6_askDebt 61 = .ok (.istore 9, 2) := by decide +kernel
theorem dX6_askDebt_63 : decode cX6_askDebt 63 = .ok (.aload_n 0, 1) := by decide +kernel
theorem dX6_askDebt_64 : decode cX6_askDebt 64 = .ok (.getfield 65, 3) := by decide +kernel
theorem dX6_askDebt_67 : decode cX6_askDebt 67 = .ok (.iload_n 1, 1) := by decide +kernel
theorem dX6_askDebt_68 : decode cX6_askDebt 68 = .ok (.iconst 3, 1) := by decide +kernel
theorem dX6_askDebt_69 : decode cX6_askDebt 69 = .ok (.invokevirtual 139, 3) := by decide +kernel
theorem dX6_askDebt_72 : decode cX6_askDebt 72 = .ok (.iload 9, 2) := by decide +kernel
theorem dX6_askDebt_74 : decode cX6_askDebt 74 = .ok (.imul, 1) := by decide +kernel
theorem dX6_askDebt_75 : decode cX6_askDebt 75 = .ok (.bipush 100, 2) := by decide +kernel
theorem dX6_askDebt_77 : decode cX6_askDebt 77 = .ok (.idiv, 1) := by decide +kernel
theorem dX6_askDebt_78 : decode cX6_askDebt 78 = .ok (.i2l, 1) := by decide +kernel
theorem dX6_askDebt_79 : decode cX6_askDebt 79 = .ok (.lload 4, 2) := by decide +kernel
theorem dX6_askDebt_81 : decode cX6_askDebt 81 = .ok (.invokestatic 217, 3) := by decide +kernel
theorem dX6_askDebt_84 : decode cX6_askDebt 84 = .ok (.l2i, 1) := by decide +kernel
theorem dX6_askDebt_85 : decode cX6_askDebt 85 = .ok (.istore 10, 2) := by decide +kernel
theorem dX6_askDebt_87 : decode cX6_askDebt 87 = .ok (.iload 10, 2) := by decide +kernel
theorem dX6_askDebt_89 : decode cX6_askDebt 89 = .ok (.ifCond .le 12, 3) := by decide +kernel
theorem dX6_askDebt_92 : decode cX6_askDebt 92 = .ok (.aload_n 0, 1) := by decide +kernel
theorem dX6_askDebt_93 : decode cX6_askDebt 93 = .ok (.iload 10, 2) := by decide +kernel
theorem dX6_askDebt_95 : decode cX6_askDebt 95 = .ok (.invokevirtual 223, 3) := by decide +kernel
theorem dX6_askDebt_98 : decode cX6_askDebt 98 = .ok (.goto 4, 3) := by decide +kernel
theorem dX6_askDebt_101 : decode cX6_askDebt 101 = .ok (.iconst (-1), 1) := by decide +kernel
theorem dX6_askDebt_102 : decode cX6_askDebt 102 = .ok (.istore 11, 2) := by decide +kernel
theorem dX6_askDebt_104 : decode cX6_askDebt 104 = .ok (.aload_n 0, 1) := by decide +kernel
theorem dX6_askDebt_105 : decode cX6_askDebt 105 = .ok (.iload_n 2, 1) := by decide +kernel
theorem dX6_askDebt_106 : decode cX6_askDebt 106 = .ok (.iload_n 1, 1) := by decide +kernel
theorem dX6_askDebt_107 : decode cX6_askDebt 107 = .ok (.iload 8, 2) := by decide +kernel
theorem dX6_askDebt_109 : decode cX6_askDebt 109 = .ok (.iload 10, 2) := by decide +kernel
theorem dX6_askDebt_111 : decode cX6_askDebt 111 = .ok (.invokevirtual 226, 3) := by decide +kernel
theorem dX6_askDebt_114 : decode cX6_askDebt 114 = .ok (.aload_n 0, 1) := by decide +kernel
theorem dX6_askDebt_115 : decode cX6_askDebt 115 = .ok (.getfield 68, 3) := by decide +kernel
theorem dX6_askDebt_118 : decode cX6_askDebt 118 = .ok (.getfield 155, 3) := by decide +kernel
theorem dX6_askDebt_121 : decode cX6_askDebt 121 = .ok (.iconst 1, 1) := by decide +kernel
theorem dX6_askDebt_122 : decode cX6_askDebt 122 = .ok (.isub, 1) := by decide +kernel
theorem dX6_askDebt_123 : decode cX6_askDebt 123 = .ok (.istore 12, 2) := by decide +kernel
theorem dX6_askDebt_125 : decode cX6_askDebt 125 = .ok (.aload_n 0, 1) := by decide +kernel
theorem dX6_askDebt_126 : decode cX6_askDebt 126 = .ok (.getfield 68, 3) := by decide +kernel
theorem dX6_askDebt_129 : decode cX6_askDebt 129 = .ok (.iload 12, 2) := by decide +kernel
theorem dX6_askDebt_131 : decode cX6_askDebt 131 = .ok (.iconst 5, 1) := by decide +kernel
theorem dX6_askDebt_132 : decode cX6_askDebt 132 = .ok (.iload 7, 2) := by decide +kernel
theorem dX6_askDebt_134 : decode cX6_askDebt 134 = .ok (.invokevirtual 127, 3) := by decide +kernel
theorem dX6_askDebt_137 : decode cX6_askDebt 137 = .ok (.aload_n 0, 1) := by decide +kernel
theorem dX6_askDebt_138 : decode cX6_askDebt 138 = .ok (.getfield 68, 3) := by decide +kernel
theorem dX6_askDebt_141 : decode cX6_askDebt 141 = .ok (.iload 12, 2) := by decide +kernel
theorem dX6_askDebt_143 : decode cX6_askDebt 143 = .ok (.bipush 6, 2) := by decide +kernel
theorem dX6_askDebt_145 : decode cX6_askDebt 145 = .ok (.iload_n 3, 1) := by decide +kernel
theorem dX6_askDebt_146 : decode cX6_askDebt 146 = .ok (.invokevirtual 127, 3) := by decide +kernel
theorem dX6_askDebt_149 : decode cX6_askDebt 149 = .ok (.aload_n 0, 1) := by decide +kernel
theorem dX6_askDebt_150 : decode cX6_askDebt 150 = .ok (.getfield 68, 3) := by decide +kernel
theorem dX6_askDebt_153 : decode cX6_askDebt 153 = .ok (.iload 12, 2) := by decide +kernel
theorem dX6_askDebt_155 : decode cX6_askDebt 155 = .ok (.bipush 7, 2) := by decide +kernel
theorem dX6_askDebt_157 : decode cX6_askDebt 157 = .ok (.iload 11, 2) := by decide +kernel
theorem dX6_askDebt_159 : decode cX6_askDebt 159 = .ok (.invokevirtual 127, 3) := by decide +kernel
theorem dX6_askDebt_162 : decode cX6_askDebt 162 = .ok (.aload_n 0, 1) := by decide +kernel
theorem dX6_askDebt_163 : decode cX6_askDebt 163 = .ok (.iload 8, 2) := by decide +kernel
theorem dX6_askDebt_165 : decode cX6_askDebt 165 = .ok (.iload_n 1, 1) := by decide +kernel
theorem dX6_askDebt_166 : decode cX6_askDebt 166 = .ok (.iload_n 2, 1) := by decide +kernel
theorem dX6_askDebt_167 : decode cX6_askDebt 167 = .ok (.iload 10, 2) := by decide +kernel
theorem dX6_askDebt_169 : decode cX6_askDebt 169 = .ok (.invokevirtual 230, 3) := by decide +kernel
theorem dX6_askDebt_172 : decode cX6_askDebt 172 = .ok (.iload 10, 2) := by decide +kernel
theorem dX6_askDebt_174 : decode cX6_askDebt 174 = .ok (.ireturn, 1) := by decide +kernel
set_option maxRecDepth 20000 in
theorem ggX6_doAct_X2_get : GoodIn wsX6_doAct wsX2_get := goodIn_r _ [7, 8, 9, 10, 11, 12, 5, 13, 14, 44, 45, 46, 47] (by decide +kernel) (by decide +kernel)
set_option maxRecDepth 20000 in
theorem gX6_doAct_X2_get_n139 : GoodIn wsX6_doAct (wsX2_get) := ggX6_doAct_X2_get
set_option maxRecDepth 20000 in
theorem ggX6_doAct_X2_set : GoodIn wsX6_doAct wsX2_set := goodIn_r _ [17, 8, 9, 10, 11, 12, 5, 13, 14, 44, 45, 46, 47] (by decide +kernel) (by decide +kernel)
set_option maxRecDepth 20000 in
theorem gX6_doAct_X2_set_n127 : GoodIn wsX6_doAct (wsX2_set) := ggX6_doAct_X2_set
set_option maxRecDepth 20000 in
theorem ggX6_doAct_X6_moveDebt : GoodIn wsX6_doAct wsX6_moveDebt := goodIn_r _ [22, 1, 15, 5, 16, 17, 8, 9, 10, 11, 12, 13, 14, 4, 6, 7, 26, 27, 28, 29, 30, 31, 32, 33, 34, 35, 36, 37, 38, 39, 40, 41, 42, 43, 44, 45, 46, 47] (by decide +kernel) (by decide +kernel)
set_option maxRecDepth 20000 in
theorem gX6_doAct_X6_moveDebt : GoodIn wsX6_doAct (wsV RX6 199 RX6 yX6_moveDebt wsX6_moveDebt) := goodIn_app (goodIn_of _ (by decide +kernel)) ggX6_doAct_X6_moveDebt
set_option maxRecDepth 20000 in
theorem ggX6_doAct_X6_isPerson : GoodIn wsX6_doAct wsX6_isPerson := goodIn_r _ [25] (by decide +kernel) (by decide +kernel)
set_option maxRecDepth 20000 in
theorem gX6_doAct_X6_isPerson : GoodIn wsX6_doAct (va_wsS RX6 166 yX6_isPerson wsX6_isPerson) := goodIn_app (goodIn_of _ (by decide +kernel)) ggX6_doAct_X6_isPerson
theorem dX6_doAct_0 : decode cX6_doAct 0 = .ok (.aload_n 0, 1) := by decide +kernel
theorem dX6_doAct_1 : decode cX6_doAct 1 = .ok (.getfield 65, 3) := by decide +kernel
theorem dX6_doAct_4 : decode cX6_doAct 4 = .ok (.iload_n 2, 1) := by decide +kernel
theorem dX6_doAct_5 : decode cX6_doAct 5 = .ok (.iconst 3, 1) := by decide +kernel
theorem dX6_doAct_6 : decode cX6_doAct 6 = .ok (.invokevirtual 139, 3) := by decide +kernel
theorem dX6_doAct_9 : decode cX6_doAct 9 = .ok (.istore 5, 2) := by decide +kernel
theorem dX6_doAct_11 : decode cX6_doAct 11 = .ok (.aload_n 0, 1) := by decide +kernel
theorem dX6_doAct_12 : decode cX6_doAct 12 = .ok (.getfield 65, 3) := by decide +kernel
theorem dX6_doAct_15 : decode cX6_doAct 15 = .ok (.iload_n 2, 1) := by decide +kernel
theorem dX6_doAct_16 : decode cX6_doAct 16 = .ok (.iconst 5, 1) := by decide +kernel
theorem dX6_doAct_17 : decode cX6_doAct 17 = .ok (.invokevirtual 139, 3) := by decide +kernel
theorem dX6_doAct_20 : decode cX6_doAct 20 = .ok (.istore 6, 2) := by decide +kernel
theorem dX6_doAct_22 : decode cX6_doAct 22 = .ok (.aload_n 0, 1) := by decide +kernel
theorem dX6_doAct_23 : decode cX6_doAct 23 = .ok (.dup, 1) := by decide +kernel
theorem dX6_doAct_24 : decode cX6_doAct 24 = .ok (.getfield 233, 3) := by decide +kernel
theorem dX6_doAct_27 : decode cX6_doAct 27 = .ok (.iload 4, 2) := by decide +kernel
theorem dX6_doAct_29 : decode cX6_doAct 29 = .ok (.i2l, 1) := by decide +kernel
theorem dX6_doAct_30 : decode cX6_doAct 30 = .ok (.ladd, 1) := by decide +kernel
theorem dX6_doAct_31 : decode cX6_doAct 31 = .ok (.putfield 233, 3) := by decide +kernel
theorem dX6_doAct_34 : decode cX6_doAct 34 = .ok (.aload_n 0, 1) := by decide +kernel
theorem dX6_doAct_35 : decode cX6_doAct 35 = .ok (.getfield 65, 3) := by decide +kernel
theorem dX6_doAct_38 : decode cX6_doAct 38 = .ok (.iload_n 2, 1) := by decide +kernel
theorem dX6_doAct_39 : decode cX6_doAct 39 = .ok (.iconst 3, 1) := by decide +kernel
theorem dX6_doAct_40 : decode cX6_doAct 40 = .ok (.iload 5, 2) := by decide +kernel
theorem dX6_doAct_42 : decode cX6_doAct 42 = .ok (.iload 4, 2) := by decide +kernel
theorem dX6_doAct_44 : decode cX6_doAct 44 = .ok (.isub, 1) := by decide +kernel
theorem dX6_doAct_45 : decode cX6_doAct 45 = .ok (.invokevirtual 127, 3) := by decide +kernel
theorem dX6_doAct_48 : decode cX6_doAct 48 = .ok (.iload_n 1, 1) := by decide +kernel
theorem dX6_doAct_49 : decode cX6_doAct 49 = .ok (.iconst 3, 1) := by decide +kernel
theorem dX6_doAct_50 : decode cX6_doAct 50 = .ok (.if_icmp .ne 28, 3) := by decide +kernel
theorem dX6_doAct_53 : decode cX6_doAct 53 = .ok (.aload_n 0, 1) := by decide +kernel
theorem dX6_doAct_54 : decode cX6_doAct 54 = .ok (.getfield 65, 3) := by decide +kernel
theorem dX6_doAct_57 : decode cX6_doAct 57 = .ok (.iload_n 2, 1) := by decide +kernel
theorem dX6_doAct_58 : decode cX6_doAct 58 = .ok (.bipush 6, 2) := by decide +kernel
theorem dX6_doAct_60 : decode cX6_doAct 60 = .ok (.iload 5, 2) := by decide +kernel
theorem dX6_doAct_62 : decode cX6_doAct 62 = .ok (.invokevirtual 127, 3) := by decide +kernel
theorem dX6_doAct_65 : decode cX6_doAct 65 = .ok (.aload_n 0, 1) := by decide +kernel
theorem dX6_doAct_66 : decode cX6_doAct 66 = .ok (.getfield 65, 3) := by decide +kernel
theorem dX6_doAct_69 : decode cX6_doAct 69 = .ok (.iload_n 2, 1) := by decide +kernel
theorem dX6_doAct_70 : decode cX6_doAct 70 = .ok (.iconst 3, 1) := by decide +kernel
theorem dX6_doAct_71 : decode cX6_doAct 71 = .ok (.iconst 0, 1) := by decide +kernel
theorem dX6_doAct_72 : decode cX6_doAct 72 = .ok (.invokevirtual 127, 3) := by decide +kernel
theorem dX6_doAct_75 : decode cX6_doAct 75 = .ok (.goto 49, 3) := by decide +kernel
theorem dX6_doAct_78 : decode cX6_doAct 78 = .ok (.iload_n 1, 1) := by decide +kernel
theorem dX6_doAct_79 : decode cX6_doAct 79 = .ok (.iconst 4, 1) := by decide +kernel
theorem dX6_doAct_80 : decode cX6_doAct 80 = .ok (.if_icmp .ne 25, 3) := by decide +kernel
theorem dX6_doAct_83 : decode cX6_doAct 83 = .ok (.iload 6, 2) := by decide +kernel
theorem dX6_doAct_85 : decode cX6_doAct 85 = .ok (.iconst (-1), 1) := by decide +kernel
theorem dX6_doAct_86 : decode cX6_doAct 86 = .ok (.if_icmp .eq 19, 3) := by decide +kernel
theorem dX6_doAct_89 : decode cX6_doAct 89 = .ok (.iload 6, 2) := by decide +kernel
theorem dX6_doAct_91 : decode cX6_doAct 91 = .ok (.iload_n 3, 1) := by decide +kernel
theorem dX6_doAct_92 : decode cX6_doAct 92 = .ok (.if_icmp .eq 13, 3) := by decide +kernel
theorem dX6_doAct_95 : decode cX6_doAct 95 = .ok (.aload_n 0, 1) := by decide +kernel
theorem dX6_doAct_96 : decode cX6_doAct 96 = .ok (.iload_n 2, 1) := by decide +kernel
theorem dX6_doAct_97 : decode cX6_doAct 97 = .ok (.iload 6, 2) := by decide +kernel
theorem dX6_doAct_99 : decode cX6_doAct 99 = .ok (.invokevirtual 199, 3) := by decide +kernel
theorem dX6_doAct_102 : decode cX6_doAct 102 = .ok (.goto 22, 3) := by decide +kernel
theorem dX6_doAct_105 : decode cX6_doAct 105 = .ok (.iload_n 1, 1) := by decide +kernel
theorem dX6_doAct_106 : decode cX6_doAct 106 = .ok (.iconst 5, 1) := by decide +kernel
theorem dX6_doAct_107 : decode cX6_doAct 107 = .ok (.if_icmp .ne 17, 3) := by decide +kernel
theorem dX6_doAct_110 : decode cX6_doAct 110 = .ok (.iload_n 3, 1) := by decide +kernel
theorem dX6_doAct_111 : decode cX6_doAct 111 = .ok (.invokestatic 166, 3) := by decide +kernel
theorem dX6_doAct_114 : decode cX6_doAct 114 = .ok (.ifCond .eq 10, 3) := by decide +kernel
theorem dX6_doAct_117 : decode cX6_doAct 117 = .ok (.aload_n 0, 1) := by decide +kernel
theorem dX6_doAct_118 : decode cX6_doAct 118 = .ok (.getfield 51, 3) := by decide +kernel
theorem dX6_doAct_121 : decode cX6_doAct 121 = .ok (.iload_n 3, 1) := by decide +kernel
theorem dX6_doAct_122 : decode cX6_doAct 122 = .ok (.iconst 1, 1) := by decide +kernel
theorem dX6_doAct_123 : decode cX6_doAct 123 = .ok (.bastore, 1) := by decide +kernel
theorem dX6_doAct_124 : decode cX6_doAct 124 = .ok (.return_, 1) := by decide +kernel
set_option maxRecDepth 20000 in
theorem ggX6_splitStick_X2_add : GoodIn wsX6_splitStick wsX2_add := goodIn_r _ [5, 6, 7, 8, 9, 10, 11, 3, 12, 13, 14, 15, 16, 17, 18, 19, 20, 21, 22, 23, 24, 25, 26, 27, 28, 29, 30, 31, 32, 58, 59, 60, 61] (by decide +kernel) (by decide +kernel)
set_option maxRecDepth 20000 in
theorem gX6_splitStick_X2_add_n123 : GoodIn wsX6_splitStick (wsX2_add) := ggX6_splitStick_X2_add
set_option maxRecDepth 20000 in
theorem ggX6_splitStick_X2_set : GoodIn wsX6_splitStick wsX2_set := goodIn_r _ [35, 8, 7, 36, 37, 38, 3, 39, 6, 58, 59, 60, 61] (by decide +kernel) (by decide +kernel)
set_option maxRecDepth 20000 in
theorem gX6_splitStick_X2_set_n127 : GoodIn wsX6_splitStick (wsX2_set) := ggX6_splitStick_X2_set
theorem dX6_splitStick_0 : decode cX6_splitStick 0 = .ok (.aload_n 0, 1) := by decide +kernel
theorem dX6_splitStick_1 : decode cX6_splitStick 1 = .ok (.getfield 71, 3) := by decide +kernel
theorem dX6_splitStick_4 : decode cX6_splitStick 4 = .ok (.invokevirtual 123, 3) := by decide +kernel
theorem dX6_splitStick_7 : decode cX6_splitStick 7 = .ok (.istore_n 2, 1) := by decide +kernel
theorem dX6_splitStick_8 : decode cX6_splitStick 8 = .ok (.aload_n 0, 1) := by decide +kernel
theorem dX6_splitStick_9 : decode cX6_splitStick 9 = .ok (.getfield 71, 3) := by decide +kernel
theorem dX6_splitStick_12 : decode cX6_splitStick 12 = .ok (.iload_n 2, 1) := by decide +kernel
theorem dX6_splitStick_13 : decode cX6_splitStick 13 = .ok (.iconst 0, 1) := by decide +kernel
theorem dX6_splitStick_14 : decode cX6_splitStick 14 = .ok (.iload_n 1, 1) := by decide +kernel
theorem dX6_splitStick_15 : decode cX6_splitStick 15 = .ok (.invokevirtual 127, 3) := by decide +kernel
theorem dX6_splitStick_18 : decode cX6_splitStick 18 = .ok (.iload_n 2, 1) := by decide +kernel
theorem dX6_splitStick_19 : decode cX6_splitStick 19 = .ok (.ireturn, 1) := by decide +kernel
set_option maxRecDepth 20000 in
theorem ggX6_writeLine_X2_add : GoodIn wsX6_writeLine wsX2_add := goodIn_r _ [6, 7, 8, 9, 10, 11, 12, 4, 13, 14, 15, 16, 17, 18, 19, 20, 21, 22, 23, 24, 25, 26, 27, 28, 29, 30, 31, 32, 33, 59, 60, 61, 62] (by decide +kernel) (by decide +kernel)
set_option maxRecDepth 20000 in
theorem gX6_writeLine_X2_add_n123 : GoodIn wsX6_writeLine (wsX2_add) := ggX6_writeLine_X2_add
set_option maxRecDepth 20000 in
theorem ggX6_writeLine_X2_set : GoodIn wsX6_writeLine wsX2_set := goodIn_r _ [36, 9, 8, 37, 38, 39, 4, 40, 7, 59, 60, 61, 62] (by decide +kernel) (by decide +kernel)
set_option maxRecDepth 20000 in
theorem gX6_writeLine_X2_set_n127 : GoodIn wsX6_writeLine (wsX2_set) := ggX6_writeLine_X2_set
theorem dX6_writeLine_0 : decode cX6_writeLine 0 = .ok (.aload_n 0, 1) := by decide +kernel
theorem dX6_writeLine_1 : decode cX6_writeLine 1 = .ok (.getfield 68, 3) := by decide +kernel
theorem dX6_writeLine_4 : decode cX6_writeLine 4 = .ok (.invokevirtual 123, 3) := by decide +kernel
theorem dX6_writeLine_7 : decode cX6_writeLine 7 = .ok (.istore 5, 2) := by decide +kernel
theorem dX6_writeLine_9 : decode cX6_writeLine 9 = .ok (.aload_n 0, 1) := by decide +kernel
theorem dX6_writeLine_10 : decode cX6_writeLine 10 = .ok (.getfield 68, 3) := by decide +kernel
theorem dX6_writeLine_13 : decode cX6_writeLine 13 = .ok (.iload 5, 2) := by decide +kernel
theorem dX6_writeLine_15 : decode cX6_writeLine 15 = .ok (.iconst 0, 1) := by decide +kernel
theorem dX6_writeLine_16 : decode cX6_writeLine 16 = .ok (.aload_n 0, 1) := by decide +kernel
theorem dX6_writeLine_17 : decode cX6_writeLine 17 = .ok (.getfield 120, 3) := by decide +kernel
theorem dX6_writeLine_20 : decode cX6_writeLine 20 = .ok (.invokevirtual 127, 3) := by decide +kernel
theorem dX6_writeLine_23 : decode cX6_writeLine 23 = .ok (.aload_n 0, 1) := by decide +kernel
theorem dX6_writeLine_24 : decode cX6_writeLine 24 = .ok (.getfield 68, 3) := by decide +kernel
theorem dX6_writeLine_27 : decode cX6_writeLine 27 = .ok (.iload 5, 2) := by decide +kernel
theorem dX6_writeLine_29 : decode cX6_writeLine 29 = .ok (.iconst 1, 1) := by decide +kernel
theorem dX6_writeLine_30 : decode cX6_writeLine 30 = .ok (.iload_n 1, 1) := by decide +kernel
theorem dX6_writeLine_31 : decode cX6_writeLine 31 = .ok (.invokevirtual 127, 3) := by decide +kernel
theorem dX6_writeLine_34 : decode cX6_writeLine 34 = .ok (.aload_n 0, 1) := by decide +kernel
theorem dX6_writeLine_35 : decode cX6_writeLine 35 = .ok (.getfield 68, 3) := by decide +kernel
theorem dX6_writeLine_38 : decode cX6_writeLine 38 = .ok (.iload 5, 2) := by decide +kernel
theorem dX6_writeLine_40 : decode cX6_writeLine 40 = .ok (.iconst 2, 1) := by decide +kernel
theorem dX6_writeLine_41 : decode cX6_writeLine 41 = .ok (.iload_n 2, 1) := by decide +kernel
theorem dX6_writeLine_42 : decode cX6_writeLine 42 = .ok (.invokevirtual 127, 3) := by decide +kernel
theorem dX6_writeLine_45 : decode cX6_writeLine 45 = .ok (.aload_n 0, 1) := by decide +kernel
theorem dX6_writeLine_46 : decode cX6_writeLine 46 = .ok (.getfield 68, 3) := by decide +kernel
theorem dX6_writeLine_49 : decode cX6_writeLine 49 = .ok (.iload 5, 2) := by decide +kernel
theorem dX6_writeLine_51 : decode cX6_writeLine 51 = .ok (.iconst 3, 1) := by decide +kernel
theorem dX6_writeLine_52 : decode cX6_writeLine 52 = .ok (.iload_n 3, 1) := by decide +kernel
theorem dX6_writeLine_53 : decode cX6_writeLine 53 = .ok (.invokevirtual 127, 3) := by decide +kernel
theorem dX6_writeLine_56 : decode cX6_writeLine 56 = .ok (.aload_n 0, 1) := by decide +kernel
theorem dX6_writeLine_57 : decode cX6_writeLine 57 = .ok (.getfield 68, 3) := by decide +kernel
theorem dX6_writeLine_60 : decode cX6_writeLine 60 = .ok (.iload 5, 2) := by decide +kernel
theorem dX6_writeLine_62 : decode cX6_writeLine 62 = .ok (.iconst 4, 1) := by decide +kernel
theorem dX6_writeLine_63 : decode cX6_writeLine 63 = .ok (.iload 4, 2) := by decide +kernel
theorem dX6_writeLine_65 : decode cX6_writeLine 65 = .ok (.invokevirtual 127, 3) := by decide +kernel
theorem dX6_writeLine_68 : decode cX6_writeLine 68 = .ok (.return_, 1) := by decide +kernel
set_option maxRecDepth 20000 in
theorem ggX6_line_X2_has : GoodIn wsX6_line wsX2_has := goodIn_r _ [5, 6, 7, 31, 32, 33, 34] (by decide +kernel) (by decide +kernel)
set_option maxRecDepth 20000 in
theorem gX6_line_X2_has_n202 : GoodIn wsX6_line (wsX2_has) := ggX6_line_X2_has
set_option maxRecDepth 20000 in
theorem ggX6_line_X2_get : GoodIn wsX6_line wsX2_get := goodIn_r _ [10, 11, 7, 12, 2, 4, 3, 5, 6, 31, 32, 33, 34] (by decide +kernel) (by decide +kernel)
set_option maxRecDepth 20000 in
theorem gX6_line_X2_get_n139 : GoodIn wsX6_line (wsX2_get) := ggX6_line_X2_get
theorem dX6_line_0 : decode cX6_line 0 = .ok (.aload_n 0, 1) := by decide +kernel
theorem dX6_line_1 : decode cX6_line 1 = .ok (.getfield 68, 3) := by decide +kernel
theorem dX6_line_4 : decode cX6_line 4 = .ok (.iload_n 1, 1) := by decide +kernel
theorem dX6_line_5 : decode cX6_line 5 = .ok (.iload_n 2, 1) := by decide +kernel
theorem dX6_line_6 : decode cX6_line 6 = .ok (.invokevirtual 202, 3) := by decide +kernel
theorem dX6_line_9 : decode cX6_line 9 = .ok (.ifCond .eq 15, 3) := by decide +kernel
theorem dX6_line_12 : decode cX6_line 12 = .ok (.aload_n 0, 1) := by decide +kernel
theorem dX6_line_13 : decode cX6_line 13 = .ok (.getfield 68, 3) := by decide +kernel
theorem dX6_line_16 : decode cX6_line 16 = .ok (.iload_n 1, 1) := by decide +kernel
theorem dX6_line_17 : decode cX6_line 17 = .ok (.iload_n 2, 1) := by decide +kernel
theorem dX6_line_18 : decode cX6_line 18 = .ok (.invokevirtual 139, 3) := by decide +kernel
theorem dX6_line_21 : decode cX6_line 21 = .ok (.goto 5, 3) := by decide +kernel
theorem dX6_line_24 : decode cX6_line 24 = .ok (.bipush (-2), 2) := by decide +kernel
theorem dX6_line_26 : decode cX6_line 26 = .ok (.ireturn, 1) := by decide +kernel
set_option maxRecDepth 20000 in
theorem ggX6_as_X2_has : GoodIn wsX6_as wsX2_has := goodIn_r _ [7, 8, 9, 33, 34, 35, 36] (by decide +kernel) (by decide +kernel)
set_option maxRecDepth 20000 in
theorem gX6_as_X2_has_n202 : GoodIn wsX6_as (wsX2_has) := ggX6_as_X2_has
set_option maxRecDepth 20000 in
theorem ggX6_as_X2_get : GoodIn wsX6_as wsX2_get := goodIn_r _ [12, 13, 9, 14, 4, 6, 5, 7, 8, 33, 34, 35, 36] (by decide +kernel) (by decide +kernel)
set_option maxRecDepth 20000 in
theorem gX6_as_X2_get_n139 : GoodIn wsX6_as (wsX2_get) := ggX6_as_X2_get
theorem dX6_as_0 : decode cX6_as 0 = .ok (.aload_n 0, 1) := by decide +kernel
theorem dX6_as_1 : decode cX6_as 1 = .ok (.getfield 65, 3) := by decide +kernel
theorem dX6_as_4 : decode cX6_as 4 = .ok (.iload_n 1, 1) := by decide +kernel
theorem dX6_as_5 : decode cX6_as 5 = .ok (.iconst 4, 1) := by decide +kernel
theorem dX6_as_6 : decode cX6_as 6 = .ok (.invokevirtual 202, 3) := by decide +kernel
theorem dX6_as_9 : decode cX6_as 9 = .ok (.ifCond .eq 15, 3) := by decide +kernel
theorem dX6_as_12 : decode cX6_as 12 = .ok (.iload_n 2, 1) := by decide +kernel
theorem dX6_as_13 : decode cX6_as 13 = .ok (.ifCond .lt 11, 3) := by decide +kernel
theorem dX6_as_16 : decode cX6_as 16 = .ok (.iload_n 2, 1) := by decide +kernel
theorem dX6_as_17 : decode cX6_as 17 = .ok (.aload_n 0, 1) := by decide +kernel
theorem dX6_as_18 : decode cX6_as 18 = .ok (.getfield 120, 3) := by decide +kernel
theorem dX6_as_21 : decode cX6_as 21 = .ok (.if_icmp .le 6, 3) := by decide +kernel
theorem dX6_as_24 : decode cX6_as 24 = .ok (.bipush (-2), 2) := by decide +kernel
theorem dX6_as_26 : decode cX6_as 26 = .ok (.ireturn, 1) := by decide +kernel
theorem dX6_as_27 : decode cX6_as 27 = .ok (.aload_n 0, 1) := by decide +kernel
theorem dX6_as_28 : decode cX6_as 28 = .ok (.getfield 65, 3) := by decide +kernel
theorem dX6_as_31 : decode cX6_as 31 = .ok (.iload_n 1, 1) := by decide +kernel
theorem dX6_as_32 : decode cX6_as 32 = .ok (.iconst 4, 1) := by decide +kernel
theorem dX6_as_33 : decode cX6_as 33 = .ok (.invokevirtual 139, 3) := by decide +kernel
theorem dX6_as_36 : decode cX6_as 36 = .ok (.iload_n 2, 1) := by decide +kernel
theorem dX6_as_37 : decode cX6_as 37 = .ok (.if_icmp .le 5, 3) := by decide +kernel
theorem dX6_as_40 : decode cX6_as 40 = .ok (.iconst (-1), 1) := by decide +kernel
theorem dX6_as_41 : decode cX6_as 41 = .ok (.ireturn, 1) := by decide +kernel
theorem dX6_as_42 : decode cX6_as 42 = .ok (.aload_n 0, 1) := by decide +kernel
theorem dX6_as_43 : decode cX6_as 43 = .ok (.getfield 65, 3) := by decide +kernel
theorem dX6_as_46 : decode cX6_as 46 = .ok (.iload_n 1, 1) := by decide +kernel
theorem dX6_as_47 : decode cX6_as 47 = .ok (.iconst 2, 1) := by decide +kernel
theorem dX6_as_48 : decode cX6_as 48 = .ok (.invokevirtual 139, 3) := by decide +kernel
theorem dX6_as_51 : decode cX6_as 51 = .ok (.istore_n 3, 1) := by decide +kernel
theorem dX6_as_52 : decode cX6_as 52 = .ok (.iconst 0, 1) := by decide +kernel
theorem dX6_as_53 : decode cX6_as 53 = .ok (.istore 4, 2) := by decide +kernel
theorem dX6_as_55 : decode cX6_as 55 = .ok (.iload 4, 2) := by decide +kernel
theorem dX6_as_57 : decode cX6_as 57 = .ok (.aload_n 0, 1) := by decide +kernel
theorem dX6_as_58 : decode cX6_as 58 = .ok (.getfield 68, 3) := by decide +kernel
theorem dX6_as_61 : decode cX6_as 61 = .ok (.getfield 155, 3) := by decide +kernel
theorem dX6_as_64 : decode cX6_as 64 = .ok (.if_icmp .ge 68, 3) := by decide +kernel
theorem dX6_as_67 : decode cX6_as 67 = .ok (.aload_n 0, 1) := by decide +kernel
theorem dX6_as_68 : decode cX6_as 68 = .ok (.getfield 68, 3) := by decide +kernel
theorem dX6_as_71 : decode cX6_as 71 = .ok (.iload 4, 2) := by decide +kernel
theorem dX6_as_73 : decode cX6_as 73 = .ok (.iconst 0, 1) := by decide +kernel
theorem dX6_as_74 : decode cX6_as 74 = .ok (.invokevirtual 139, 3) := by decide +kernel
theorem dX6_as_77 : decode cX6_as 77 = .ok (.iload_n 2, 1) := by decide +kernel
theorem dX6_as_78 : decode cX6_as 78 = .ok (.if_icmp .gt 54, 3) := by decide +kernel
theorem dX6_as_81 : decode cX6_as 81 = .ok (.aload_n 0, 1) := by decide +kernel
theorem dX6_as_82 : decode cX6_as 82 = .ok (.getfield 68, 3) := by decide +kernel
theorem dX6_as_85 : decode cX6_as 85 = .ok (.iload 4, 2) := by decide +kernel
theorem dX6_as_87 : decode cX6_as 87 = .ok (.iconst 2, 1) := by decide +kernel
theorem dX6_as_88 : decode cX6_as 88 = .ok (.invokevirtual 139, 3) := by decide +kernel
theorem dX6_as_91 : decode cX6_as 91 = .ok (.iload_n 1, 1) := by decide +kernel
theorem dX6_as_92 : decode cX6_as 92 = .ok (.if_icmp .ne 34, 3) := by decide +kernel
theorem dX6_as_95 : decode cX6_as 95 = .ok (.aload_n 0, 1) := by decide +kernel
theorem dX6_as_96 : decode cX6_as 96 = .ok (.getfield 68, 3) := by decide +kernel
theorem dX6_as_99 : decode cX6_as 99 = .ok (.iload 4, 2) := by decide +kernel
theorem dX6_as_101 : decode cX6_as 101 = .ok (.iconst 3, 1) := by decide +kernel
theorem dX6_as_102 : decode cX6_as 102 = .ok (.invokevirtual 139, 3) := by decide +kernel
theorem dX6_as_105 : decode cX6_as 105 = .ok (.iconst 3, 1) := by decide +kernel
theorem dX6_as_106 : decode cX6_as 106 = .ok (.if_icmp .ne 7, 3) := by decide +kernel
theorem dX6_as_109 : decode cX6_as 109 = .ok (.iconst 0, 1) := by decide +kernel
theorem dX6_as_110 : decode cX6_as 110 = .ok (.goto 15, 3) := by decide +kernel
theorem dX6_as_113 : decode cX6_as 113 = .ok (.iload_n 3, 1) := by decide +kernel
theorem dX6_as_114 : decode cX6_as 114 = .ok (.aload_n 0, 1) := by decide +kernel
theorem dX6_as_115 : decode cX6_as 115 = .ok (.getfield 68, 3) := by decide +kernel
theorem dX6_as_118 : decode cX6_as 118 = .ok (.iload 4, 2) := by decide +kernel
theorem dX6_as_120 : decode cX6_as 120 = .ok (.iconst 4, 1) := by decide +kernel
theorem dX6_as_121 : decode cX6_as 121 = .ok (.invokevirtual 139, 3) := by decide +kernel
theorem dX6_as_124 : decode cX6_as 124 = .ok (.isub, 1) := by decide +kernel
theorem dX6_as_125 : decode cX6_as 125 = .ok (.istore_n 3, 1) := by decide +kernel
theorem dX6_as_126 : decode cX6_as 126 = .ok (.iinc 4 1, 3) := by decide +kernel
theorem dX6_as_129 : decode cX6_as 129 = .ok (.goto (-74), 3) := by decide +kernel
theorem dX6_as_132 : decode cX6_as 132 = .ok (.iload_n 3, 1) := by decide +kernel
theorem dX6_as_133 : decode cX6_as 133 = .ok (.ireturn, 1) := by decide +kernel
set_option maxRecDepth 20000 in
theorem ggX6_stick_X2_has : GoodIn wsX6_stick wsX2_has := goodIn_r _ [5, 6, 7, 35, 36, 37, 38] (by decide +kernel) (by decide +kernel)
set_option maxRecDepth 20000 in
theorem gX6_stick_X2_has_n202 : GoodIn wsX6_stick (wsX2_has) := ggX6_stick_X2_has
set_option maxRecDepth 20000 in
theorem ggX6_stick_X2_get : GoodIn wsX6_stick wsX2_get := goodIn_r _ [10, 11, 7, 12, 2, 4, 3, 5, 6, 35, 36, 37, 38] (by decide +kernel) (by decide +kernel)
set_option maxRecDepth 20000 in
theorem gX6_stick_X2_get_n139 : GoodIn wsX6_stick (wsX2_get) := ggX6_stick_X2_get
set_option maxRecDepth 20000 in
theorem ggX6_stick_X0_notches : GoodIn wsX6_stick wsX0_notches := goodIn_r _ [15, 16] (by decide +kernel) (by decide +kernel)
set_option maxRecDepth 20000 in
theorem gX6_stick_X0_notches_n236 : GoodIn wsX6_stick (wsX0_notches) := ggX6_stick_X0_notches
theorem dX6_stick_0 : decode cX6_stick 0 = .ok (.aload_n 0, 1) := by decide +kernel
theorem dX6_stick_1 : decode cX6_stick 1 = .ok (.getfield 71, 3) := by decide +kernel
theorem dX6_stick_4 : decode cX6_stick 4 = .ok (.iload_n 1, 1) := by decide +kernel
theorem dX6_stick_5 : decode cX6_stick 5 = .ok (.iconst 0, 1) := by decide +kernel
theorem dX6_stick_6 : decode cX6_stick 6 = .ok (.invokevirtual 202, 3) := by decide +kernel
theorem dX6_stick_9 : decode cX6_stick 9 = .ok (.ifCond .eq 14, 3) := by decide +kernel
theorem dX6_stick_12 : decode cX6_stick 12 = .ok (.iload_n 2, 1) := by decide +kernel
theorem dX6_stick_13 : decode cX6_stick 13 = .ok (.iconst (-1), 1) := by decide +kernel
theorem dX6_stick_14 : decode cX6_stick 14 = .ok (.if_icmp .lt 9, 3) := by decide +kernel
theorem dX6_stick_17 : decode cX6_stick 17 = .ok (.iload_n 2, 1) := by decide +kernel
theorem dX6_stick_18 : decode cX6_stick 18 = .ok (.bipush 6, 2) := by decide +kernel
theorem dX6_stick_20 : decode cX6_stick 20 = .ok (.if_icmp .lt 5, 3) := by decide +kernel
theorem dX6_stick_23 : decode cX6_stick 23 = .ok (.iconst (-1), 1) := by decide +kernel
theorem dX6_stick_24 : decode cX6_stick 24 = .ok (.ireturn, 1) := by decide +kernel
theorem dX6_stick_25 : decode cX6_stick 25 = .ok (.aload_n 0, 1) := by decide +kernel
theorem dX6_stick_26 : decode cX6_stick 26 = .ok (.getfield 71, 3) := by decide +kernel
theorem dX6_stick_29 : decode cX6_stick 29 = .ok (.iload_n 1, 1) := by decide +kernel
theorem dX6_stick_30 : decode cX6_stick 30 = .ok (.iconst 0, 1) := by decide +kernel
theorem dX6_stick_31 : decode cX6_stick 31 = .ok (.invokevirtual 139, 3) := by decide +kernel
theorem dX6_stick_34 : decode cX6_stick 34 = .ok (.istore_n 3, 1) := by decide +kernel
theorem dX6_stick_35 : decode cX6_stick 35 = .ok (.iload_n 2, 1) := by decide +kernel
theorem dX6_stick_36 : decode cX6_stick 36 = .ok (.ifCond .ge 7, 3) := by decide +kernel
theorem dX6_stick_39 : decode cX6_stick 39 = .ok (.iload_n 3, 1) := by decide +kernel
theorem dX6_stick_40 : decode cX6_stick 40 = .ok (.goto 8, 3) := by decide +kernel
theorem dX6_stick_43 : decode cX6_stick 43 = .ok (.iload_n 3, 1) := by decide +kernel
theorem dX6_stick_44 : decode cX6_stick 44 = .ok (.iload_n 2, 1) := by decide +kernel
theorem dX6_stick_45 : decode cX6_stick 45 = .ok (.invokestatic 236, 3) := by decide +kernel
theorem dX6_stick_48 : decode cX6_stick 48 = .ok (.ireturn, 1) := by decide +kernel
set_option maxRecDepth 20000 in
theorem ggX6_fits_X2_has : GoodIn wsX6_fits wsX2_has := goodIn_r _ [6, 7, 8, 36, 37, 38, 39] (by decide +kernel) (by decide +kernel)
set_option maxRecDepth 20000 in
theorem gX6_fits_X2_has_n202 : GoodIn wsX6_fits (wsX2_has) := ggX6_fits_X2_has
set_option maxRecDepth 20000 in
theorem ggX6_fits_X2_get : GoodIn wsX6_fits wsX2_get := goodIn_r _ [11, 12, 8, 13, 3, 5, 4, 6, 7, 36, 37, 38, 39] (by decide +kernel) (by decide +kernel)
set_option maxRecDepth 20000 in
theorem gX6_fits_X2_get_n139 : GoodIn wsX6_fits (wsX2_get) := ggX6_fits_X2_get
set_option maxRecDepth 20000 in
theorem ggX6_fits_X0_notches : GoodIn wsX6_fits wsX0_notches := goodIn_r _ [16, 17] (by decide +kernel) (by decide +kernel)
set_option maxRecDepth 20000 in
theorem gX6_fits_X0_notches_n236 : GoodIn wsX6_fits (wsX0_notches) := ggX6_fits_X0_notches
theorem dX6_fits_0 : decode cX6_fits 0 = .ok (.aload_n 0, 1) := by decide +kernel
theorem dX6_fits_1 : decode cX6_fits 1 = .ok (.getfield 71, 3) := by decide +kernel
theorem dX6_fits_4 : decode cX6_fits 4 = .ok (.iload_n 1, 1) := by decide +kernel
theorem dX6_fits_5 : decode cX6_fits 5 = .ok (.iconst 0, 1) := by decide +kernel
theorem dX6_fits_6 : decode cX6_fits 6 = .ok (.invokevirtual 202, 3) := by decide +kernel
theorem dX6_fits_9 : decode cX6_fits 9 = .ok (.ifCond .eq 13, 3) := by decide +kernel
theorem dX6_fits_12 : decode cX6_fits 12 = .ok (.iload_n 2, 1) := by decide +kernel
theorem dX6_fits_13 : decode cX6_fits 13 = .ok (.ifCond .lt 9, 3) := by decide +kernel
theorem dX6_fits_16 : decode cX6_fits 16 = .ok (.iload_n 2, 1) := by decide +kernel
theorem dX6_fits_17 : decode cX6_fits 17 = .ok (.ldc 138, 2) := by decide +kernel
theorem dX6_fits_19 : decode cX6_fits 19 = .ok (.if_icmp .le 5, 3) := by decide +kernel
theorem dX6_fits_22 : decode cX6_fits 22 = .ok (.iconst (-1), 1) := by decide +kernel
theorem dX6_fits_23 : decode cX6_fits 23 = .ok (.ireturn, 1) := by decide +kernel
theorem dX6_fits_24 : decode cX6_fits 24 = .ok (.aload_n 0, 1) := by decide +kernel
theorem dX6_fits_25 : decode cX6_fits 25 = .ok (.getfield 71, 3) := by decide +kernel
theorem dX6_fits_28 : decode cX6_fits 28 = .ok (.iload_n 1, 1) := by decide +kernel
theorem dX6_fits_29 : decode cX6_fits 29 = .ok (.iconst 0, 1) := by decide +kernel
theorem dX6_fits_30 : decode cX6_fits 30 = .ok (.invokevirtual 139, 3) := by decide +kernel
theorem dX6_fits_33 : decode cX6_fits 33 = .ok (.istore_n 3, 1) := by decide +kernel
theorem dX6_fits_34 : decode cX6_fits 34 = .ok (.iconst 0, 1) := by decide +kernel
theorem dX6_fits_35 : decode cX6_fits 35 = .ok (.istore 4, 2) := by decide +kernel
theorem dX6_fits_37 : decode cX6_fits 37 = .ok (.iload 4, 2) := by decide +kernel
theorem dX6_fits_39 : decode cX6_fits 39 = .ok (.bipush 6, 2) := by decide +kernel
theorem dX6_fits_41 : decode cX6_fits 41 = .ok (.if_icmp .ge 27, 3) := by decide +kernel
theorem dX6_fits_44 : decode cX6_fits 44 = .ok (.iload_n 3, 1) := by decide +kernel
theorem dX6_fits_45 : decode cX6_fits 45 = .ok (.iload 4, 2) := by decide +kernel
theorem dX6_fits_47 : decode cX6_fits 47 = .ok (.invokestatic 236, 3) := by decide +kernel
theorem dX6_fits_50 : decode cX6_fits 50 = .ok (.iload_n 2, 1) := by decide +kernel
theorem dX6_fits_51 : decode cX6_fits 51 = .ok (.iload 4, 2) := by decide +kernel
theorem dX6_fits_53 : decode cX6_fits 53 = .ok (.invokestatic 236, 3) := by decide +kernel
theorem dX6_fits_56 : decode cX6_fits 56 = .ok (.if_icmp .eq 6, 3) := by decide +kernel
theorem dX6_fits_59 : decode cX6_fits 59 = .ok (.iload 4, 2) := by decide +kernel
theorem dX6_fits_61 : decode cX6_fits 61 = .ok (.ireturn, 1) := by decide +kernel
theorem dX6_fits_62 : decode cX6_fits 62 = .ok (.iinc 4 1, 3) := by decide +kernel
theorem dX6_fits_65 : decode cX6_fits 65 = .ok (.goto (-28), 3) := by decide +kernel
theorem dX6_fits_68 : decode cX6_fits 68 = .ok (.bipush 6, 2) := by decide +kernel
theorem dX6_fits_70 : decode cX6_fits 70 = .ok (.ireturn, 1) := by decide +kernel
set_option maxRecDepth 20000 in
theorem ggX6_lay_X6_isSum : GoodIn wsX6_lay wsX6_isSum := goodIn_r _ [5, 6] (by decide +kernel) (by decide +kernel)
set_option maxRecDepth 20000 in
theorem gX6_lay_X6_isSum : GoodIn wsX6_lay (va_wsS RX6 169 yX6_isSum wsX6_isSum) := goodIn_app (goodIn_of _ (by decide +kernel)) ggX6_lay_X6_isSum
set_option maxRecDepth 20000 in
theorem ggX6_lay_X0_layDown : GoodIn wsX6_lay wsX0_layDown := goodIn_r _ [10, 11, 12, 13, 14, 8, 15, 16, 35] (by decide +kernel) (by decide +kernel)
set_option maxRecDepth 20000 in
theorem gX6_lay_X0_layDown_n239 : GoodIn wsX6_lay (wsX0_layDown) := ggX6_lay_X0_layDown
theorem dX6_lay_0 : decode cX6_lay 0 = .ok (.iload_n 1, 1) := by decide +kernel
theorem dX6_lay_1 : decode cX6_lay 1 = .ok (.invokestatic 169, 3) := by decide +kernel
theorem dX6_lay_4 : decode cX6_lay 4 = .ok (.ifCond .eq 14, 3) := by decide +kernel
theorem dX6_lay_7 : decode cX6_lay 7 = .ok (.aload_n 0, 1) := by decide +kernel
theorem dX6_lay_8 : decode cX6_lay 8 = .ok (.getfield 77, 3) := by decide +kernel
theorem dX6_lay_11 : decode cX6_lay 11 = .ok (.iload_n 1, 1) := by decide +kernel
theorem dX6_lay_12 : decode cX6_lay 12 = .ok (.invokevirtual 239, 3) := by decide +kernel
theorem dX6_lay_15 : decode cX6_lay 15 = .ok (.goto 4, 3) := by decide +kernel
theorem dX6_lay_18 : decode cX6_lay 18 = .ok (.iconst (-1), 1) := by decide +kernel
theorem dX6_lay_19 : decode cX6_lay 19 = .ok (.ireturn, 1) := by decide +kernel
set_option maxRecDepth 20000 in
theorem ggX6_take_X6_isSum : GoodIn wsX6_take wsX6_isSum := goodIn_r _ [5, 6] (by decide +kernel) (by decide +kernel)
set_option maxRecDepth 20000 in
theorem gX6_take_X6_isSum : GoodIn wsX6_take (va_wsS RX6 169 yX6_isSum wsX6_isSum) := goodIn_app (goodIn_of _ (by decide +kernel)) ggX6_take_X6_isSum
set_option maxRecDepth 20000 in
theorem ggX6_take_X0_lies : GoodIn wsX6_take wsX0_lies := goodIn_r _ [10, 11, 12, 43] (by decide +kernel) (by decide +kernel)
set_option maxRecDepth 20000 in
theorem gX6_take_X0_lies_n242 : GoodIn wsX6_take (wsX0_lies) := ggX6_take_X0_lies
set_option maxRecDepth 20000 in
theorem ggX6_take_X0_takeUp : GoodIn wsX6_take wsX0_takeUp := goodIn_r _ [15, 11, 16, 17, 8, 18, 19, 20, 21, 22, 23, 24, 43] (by decide +kernel) (by decide +kernel)
set_option maxRecDepth 20000 in
theorem gX6_take_X0_takeUp_n246 : GoodIn wsX6_take (wsX0_takeUp) := ggX6_take_X0_takeUp
theorem dX6_take_0 : decode cX6_take 0 = .ok (.iload_n 1, 1) := by decide +kernel
theorem dX6_take_1 : decode cX6_take 1 = .ok (.invokestatic 169, 3) := by decide +kernel
theorem dX6_take_4 : decode cX6_take 4 = .ok (.ifCond .ne 5, 3) := by decide +kernel
theorem dX6_take_7 : decode cX6_take 7 = .ok (.iconst (-1), 1) := by decide +kernel
theorem dX6_take_8 : decode cX6_take 8 = .ok (.ireturn, 1) := by decide +kernel
theorem dX6_take_9 : decode cX6_take 9 = .ok (.iload_n 1, 1) := by decide +kernel
theorem dX6_take_10 : decode cX6_take 10 = .ok (.i2l, 1) := by decide +kernel
theorem dX6_take_11 : decode cX6_take 11 = .ok (.aload_n 0, 1) := by decide +kernel
theorem dX6_take_12 : decode cX6_take 12 = .ok (.getfield 77, 3) := by decide +kernel
theorem dX6_take_15 : decode cX6_take 15 = .ok (.invokevirtual 242, 3) := by decide +kernel
theorem dX6_take_18 : decode cX6_take 18 = .ok (.lcmp, 1) := by decide +kernel
theorem dX6_take_19 : decode cX6_take 19 = .ok (.ifCond .le 8, 3) := by decide +kernel
theorem dX6_take_22 : decode cX6_take 22 = .ok (.bipush (-2), 2) := by decide +kernel
theorem dX6_take_24 : decode cX6_take 24 = .ok (.goto 11, 3) := by decide +kernel
theorem dX6_take_27 : decode cX6_take 27 = .ok (.aload_n 0, 1) := by decide +kernel
theorem dX6_take_28 : decode cX6_take 28 = .ok (.getfield 77, 3) := by decide +kernel
theorem dX6_take_31 : decode cX6_take 31 = .ok (.iload_n 1, 1) := by decide +kernel
theorem dX6_take_32 : decode cX6_take 32 = .ok (.invokevirtual 246, 3) := by decide +kernel
theorem dX6_take_35 : decode cX6_take 35 = .ok (.ireturn, 1) := by decide +kernel
theorem dX6_cloth_0 : decode cX6_cloth 0 = .ok (.iload_n 1, 1) := by decide +kernel
theorem dX6_cloth_1 : decode cX6_cloth 1 = .ok (.ifCond .lt 9, 3) := by decide +kernel
theorem dX6_cloth_4 : decode cX6_cloth 4 = .ok (.iload_n 1, 1) := by decide +kernel
theorem dX6_cloth_5 : decode cX6_cloth 5 = .ok (.bipush 6, 2) := by decide +kernel
theorem dX6_cloth_7 : decode cX6_cloth 7 = .ok (.if_icmp .lt 7, 3) := by decide +kernel
theorem dX6_cloth_10 : decode cX6_cloth 10 = .ok (.iconst (-1), 1) := by decide +kernel
theorem dX6_cloth_11 : decode cX6_cloth 11 = .ok (.goto 12, 3) := by decide +kernel
theorem dX6_cloth_14 : decode cX6_cloth 14 = .ok (.aload_n 0, 1) := by decide +kernel
theorem dX6_cloth_15 : decode cX6_cloth 15 = .ok (.getfield 77, 3) := by decide +kernel
theorem dX6_cloth_18 : decode cX6_cloth 18 = .ok (.getfield 249, 3) := by decide +kernel
theorem dX6_cloth_21 : decode cX6_cloth 21 = .ok (.iload_n 1, 1) := by decide +kernel
theorem dX6_cloth_22 : decode cX6_cloth 22 = .ok (.iaload, 1) := by decide +kernel
theorem dX6_cloth_23 : decode cX6_cloth 23 = .ok (.ireturn, 1) := by decide +kernel
set_option maxRecDepth 20000 in
theorem ggX6_sum_X0_lies : GoodIn wsX6_sum wsX0_lies := goodIn_r _ [9, 10, 11, 51] (by decide +kernel) (by decide +kernel)
set_option maxRecDepth 20000 in
theorem gX6_sum_X0_lies_n242 : GoodIn wsX6_sum (wsX0_lies) := ggX6_sum_X0_lies
set_option maxRecDepth 20000 in
theorem ggX6_sum_X6_allCredits : GoodIn wsX6_sum wsX6_allCredits := goodIn_r _ [16, 17, 33, 34, 35, 36, 37, 38, 39, 40, 41, 42, 43, 44, 45, 46, 47, 48, 49, 50] (by decide +kernel) (by decide +kernel)
set_option maxRecDepth 20000 in
theorem gX6_sum_X6_allCredits : GoodIn wsX6_sum (wsV RX6 252 RX6 yX6_allCredits wsX6_allCredits) := goodIn_app (goodIn_of _ (by decide +kernel)) ggX6_sum_X6_allCredits
set_option maxRecDepth 20000 in
theorem ggX6_sum_X2_total : GoodIn wsX6_sum wsX2_total := goodIn_r _ [21, 22, 23, 24, 25, 19, 26, 27, 28, 29, 30, 31, 32, 52, 53, 54, 55] (by decide +kernel) (by decide +kernel)
set_option maxRecDepth 20000 in
theorem gX6_sum_X2_total_n255 : GoodIn wsX6_sum (wsX2_total) := ggX6_sum_X2_total
theorem dX6_sum_0 : decode cX6_sum 0 = .ok (.iload_n 1, 1) := by decide +kernel
theorem dX6_sum_1 : decode cX6_sum 1 = .ok (.tableswitch 94 0 6 #[43, 51, 56, 61, 70, 80, 89], 43) := by decide +kernel
theorem dX6_sum_44 : decode cX6_sum 44 = .ok (.aload_n 0, 1) := by decide +kernel
theorem dX6_sum_45 : decode cX6_sum 45 = .ok (.getfield 77, 3) := by decide +kernel
theorem dX6_sum_48 : decode cX6_sum 48 = .ok (.invokevirtual 242, 3) := by decide +kernel
theorem dX6_sum_51 : decode cX6_sum 51 = .ok (.lreturn, 1) := by decide +kernel
theorem dX6_sum_52 : decode cX6_sum 52 = .ok (.aload_n 0, 1) := by decide +kernel
theorem dX6_sum_53 : decode cX6_sum 53 = .ok (.getfield 233, 3) := by decide +kernel
theorem dX6_sum_56 : decode cX6_sum 56 = .ok (.lreturn, 1) := by decide +kernel
theorem dX6_sum_57 : decode cX6_sum 57 = .ok (.aload_n 0, 1) := by decide +kernel
theorem dX6_sum_58 : decode cX6_sum 58 = .ok (.invokevirtual 252, 3) := by decide +kernel
theorem dX6_sum_61 : decode cX6_sum 61 = .ok (.lreturn, 1) := by decide +kernel
theorem dX6_sum_62 : decode cX6_sum 62 = .ok (.aload_n 0, 1) := by decide +kernel
theorem dX6_sum_63 : decode cX6_sum 63 = .ok (.getfield 65, 3) := by decide +kernel
theorem dX6_sum_66 : decode cX6_sum 66 = .ok (.iconst 3, 1) := by decide +kernel
theorem dX6_sum_67 : decode cX6_sum 67 = .ok (.invokevirtual 255, 3) := by decide +kernel
theorem dX6_sum_70 : decode cX6_sum 70 = .ok (.lreturn, 1) := by decide +kernel
theorem dX6_sum_71 : decode cX6_sum 71 = .ok (.aload_n 0, 1) := by decide +kernel
theorem dX6_sum_72 : decode cX6_sum 72 = .ok (.getfield 65, 3) := by decide +kernel
theorem dX6_sum_75 : decode cX6_sum 75 = .ok (.bipush 6, 2) := by decide +kernel
theorem dX6_sum_77 : decode cX6_sum 77 = .ok (.invokevirtual 255, 3) := by decide +kernel
theorem dX6_sum_80 : decode cX6_sum 80 = .ok (.lreturn, 1) := by decide +kernel
theorem dX6_sum_81 : decode cX6_sum 81 = .ok (.aload_n 0, 1) := by decide +kernel
theorem dX6_sum_82 : decode cX6_sum 82 = .ok (.getfield 65, 3) := by decide +kernel
theorem dX6_sum_85 : decode cX6_sum 85 = .ok (.iconst 2, 1) := by decide +kernel
theorem dX6_sum_86 : decode cX6_sum 86 = .ok (.invokevirtual 255, 3) := by decide +kernel
theorem dX6_sum_89 : decode cX6_sum 89 = .ok (.lreturn, 1) := by decide +kernel
theorem dX6_sum_90 : decode cX6_sum 90 = .ok (.aload_n 0, 1) := by decide +kernel
theorem dX6_sum_91 : decode cX6_sum 91 = .ok (.getfield 187, 3) := by decide +kernel
theorem dX6_sum_94 : decode cX6_sum 94 = .ok (.lreturn, 1) := by decide +kernel
theorem dX6_sum_95 : decode cX6_sum 95 = .ok (.ldc2_w 205, 3) := by decide +kernel
theorem dX6_sum_98 : decode cX6_sum 98 = .ok (.lreturn, 1) := by decide +kernel
theorem dX6_count_0 : decode cX6_count 0 = .ok (.iload_n 1, 1) := by decide +kernel
theorem dX6_count_1 : decode cX6_count 1 = .ok (.tableswitch 81 0 5 #[39, 47, 55, 63, 68, 73], 39) := by decide +kernel
theorem dX6_count_40 : decode cX6_count 40 = .ok (.aload_n 0, 1) := by decide +kernel
theorem dX6_count_41 : decode cX6_count 41 = .ok (.getfield 65, 3) := by decide +kernel
theorem dX6_count_44 : decode cX6_count 44 = .ok (.getfield 155, 3) := by decide +kernel
theorem dX6_count_47 : decode cX6_count 47 = .ok (.ireturn, 1) := by decide +kernel
theorem dX6_count_48 : decode cX6_count 48 = .ok (.aload_n 0, 1) := by decide +kernel
theorem dX6_count_49 : decode cX6_count 49 = .ok (.getfield 68, 3) := by decide +kernel
theorem dX6_count_52 : decode cX6_count 52 = .ok (.getfield 155, 3) := by decide +kernel
theorem dX6_count_55 : decode cX6_count 55 = .ok (.ireturn, 1) := by decide +kernel
theorem dX6_count_56 : decode cX6_count 56 = .ok (.aload_n 0, 1) := by decide +kernel
theorem dX6_count_57 : decode cX6_count 57 = .ok (.getfield 71, 3) := by decide +kernel
theorem dX6_count_60 : decode cX6_count 60 = .ok (.getfield 155, 3) := by decide +kernel
theorem dX6_count_63 : decode cX6_count 63 = .ok (.ireturn, 1) := by decide +kernel
theorem dX6_count_64 : decode cX6_count 64 = .ok (.aload_n 0, 1) := by decide +kernel
theorem dX6_count_65 : decode cX6_count 65 = .ok (.getfield 99, 3) := by decide +kernel
theorem dX6_count_68 : decode cX6_count 68 = .ok (.ireturn, 1) := by decide +kernel
theorem dX6_count_69 : decode cX6_count 69 = .ok (.aload_n 0, 1) := by decide +kernel
theorem dX6_count_70 : decode cX6_count 70 = .ok (.getfield 120, 3) := by decide +kernel
theorem dX6_count_73 : decode cX6_count 73 = .ok (.ireturn, 1) := by decide +kernel
theorem dX6_count_74 : decode cX6_count 74 = .ok (.aload_n 0, 1) := by decide +kernel
theorem dX6_count_75 : decode cX6_count 75 = .ok (.getfield 10, 3) := by decide +kernel
theorem dX6_count_78 : decode cX6_count 78 = .ok (.getfield 95, 3) := by decide +kernel
theorem dX6_count_81 : decode cX6_count 81 = .ok (.ireturn, 1) := by decide +kernel
theorem dX6_count_82 : decode cX6_count 82 = .ok (.iconst (-1), 1) := by decide +kernel
theorem dX6_count_83 : decode cX6_count 83 = .ok (.ireturn, 1) := by decide +kernel
theorem dX6_allCredits_0 : decode cX6_allCredits 0 = .ok (.lconst 0, 1) := by decide +kernel
theorem dX6_allCredits_1 : decode cX6_allCredits 1 = .ok (.lstore_n 1, 1) := by decide +kernel
theorem dX6_allCredits_2 : decode cX6_allCredits 2 = .ok (.iconst 0, 1) := by decide +kernel
theorem dX6_allCredits_3 : decode cX6_allCredits 3 = .ok (.istore_n 3, 1) := by decide +kernel
theorem dX6_allCredits_4 : decode cX6_allCredits 4 = .ok (.iload_n 3, 1) := by decide +kernel
theorem dX6_allCredits_5 : decode cX6_allCredits 5 = .ok (.bipush 16, 2) := by decide +kernel
theorem dX6_allCredits_7 : decode cX6_allCredits 7 = .ok (.if_icmp .ge 18, 3) := by decide +kernel
theorem dX6_allCredits_10 : decode cX6_allCredits 10 = .ok (.lload_n 1, 1) := by decide +kernel
theorem dX6_allCredits_11 : decode cX6_allCredits 11 = .ok (.aload_n 0, 1) := by decide +kernel
theorem dX6_allCredits_12 : decode cX6_allCredits 12 = .ok (.getfield 47, 3) := by decide +kernel
theorem dX6_allCredits_15 : decode cX6_allCredits 15 = .ok (.iload_n 3, 1) := by decide +kernel
theorem dX6_allCredits_16 : decode cX6_allCredits 16 = .ok (.laload, 1) := by decide +kernel
theorem dX6_allCredits_17 : decode cX6_allCredits 17 = .ok (.ladd, 1) := by decide +kernel
theorem dX6_allCredits_18 : decode cX6_allCredits 18 = .ok (.lstore_n 1, 1) := by decide +kernel
theorem dX6_allCredits_19 : decode cX6_allCredits 19 = .ok (.iinc 3 1, 3) := by decide +kernel
theorem dX6_allCredits_22 : decode cX6_allCredits 22 = .ok (.goto (-18), 3) := by decide +kernel
theorem dX6_allCredits_25 : decode cX6_allCredits 25 = .ok (.lload_n 1, 1) := by decide +kernel
theorem dX6_allCredits_26 : decode cX6_allCredits 26 = .ok (.lreturn, 1) := by decide +kernel
theorem dX7_init_0 : decode cX7_init 0 = .ok (.aload_n 0, 1) := by decide +kernel
theorem dX7_init_1 : decode cX7_init 1 = .ok (.invokespecial 1, 3) := by decide +kernel
theorem dX7_init_4 : decode cX7_init 4 = .ok (.aload_n 0, 1) := by decide +kernel
theorem dX7_init_5 : decode cX7_init 5 = .ok (.sipush 800, 3) := by decide +kernel
theorem dX7_init_8 : decode cX7_init 8 = .ok (.newarray .byte, 2) := by decide +kernel
theorem dX7_init_10 : decode cX7_init 10 = .ok (.putfield 7, 3) := by decide +kernel
theorem dX7_init_13 : decode cX7_init 13 = .ok (.aload_n 0, 1) := by decide +kernel
theorem dX7_init_14 : decode cX7_init 14 = .ok (.bipush 10, 2) := by decide +kernel
theorem dX7_init_16 : decode cX7_init 16 = .ok (.newarray .int, 2) := by decide +kernel
theorem dX7_init_18 : decode cX7_init 18 = .ok (.putfield 13, 3) := by decide +kernel
theorem dX7_init_21 : decode cX7_init 21 = .ok (.aload_n 0, 1) := by decide +kernel
theorem dX7_init_22 : decode cX7_init 22 = .ok (.sipush 400, 3) := by decide +kernel
theorem dX7_init_25 : decode cX7_init 25 = .ok (.newarray .int, 2) := by decide +kernel
theorem dX7_init_27 : decode cX7_init 27 = .ok (.putfield 17, 3) := by decide +kernel
theorem dX7_init_30 : decode cX7_init 30 = .ok (.aload_n 0, 1) := by decide +kernel
theorem dX7_init_31 : decode cX7_init 31 = .ok (.sipush 400, 3) := by decide +kernel
theorem dX7_init_34 : decode cX7_init 34 = .ok (.newarray .int, 2) := by decide +kernel
theorem dX7_init_36 : decode cX7_init 36 = .ok (.putfield 20, 3) := by decide +kernel
theorem dX7_init_39 : decode cX7_init 39 = .ok (.aload_n 0, 1) := by decide +kernel
theorem dX7_init_40 : decode cX7_init 40 = .ok (.sipush 400, 3) := by decide +kernel
theorem dX7_init_43 : decode cX7_init 43 = .ok (.newarray .int, 2) := by decide +kernel
theorem dX7_init_45 : decode cX7_init 45 = .ok (.putfield 23, 3) := by decide +kernel
theorem dX7_init_48 : decode cX7_init 48 = .ok (.aload_n 0, 1) := by decide +kernel
theorem dX7_init_49 : decode cX7_init 49 = .ok (.sipush 400, 3) := by decide +kernel
theorem dX7_init_52 : decode cX7_init 52 = .ok (.newarray .int, 2) := by decide +kernel
theorem dX7_init_54 : decode cX7_init 54 = .ok (.putfield 26, 3) := by decide +kernel
theorem dX7_init_57 : decode cX7_init 57 = .ok (.aload_n 0, 1) := by decide +kernel
theorem dX7_init_58 : decode cX7_init 58 = .ok (.sipush 9000, 3) := by decide +kernel
theorem dX7_init_61 : decode cX7_init 61 = .ok (.newarray .int, 2) := by decide +kernel
theorem dX7_init_63 : decode cX7_init 63 = .ok (.putfield 29, 3) := by decide +kernel
theorem dX7_init_66 : decode cX7_init 66 = .ok (.aload_n 0, 1) := by decide +kernel
theorem dX7_init_67 : decode cX7_init 67 = .ok (.sipush 9000, 3) := by decide +kernel
theorem dX7_init_70 : decode cX7_init 70 = .ok (.newarray .int, 2) := by decide +kernel
theorem dX7_init_72 : decode cX7_init 72 = .ok (.putfield 32, 3) := by decide +kernel
theorem dX7_init_75 : decode cX7_init 75 = .ok (.aload_n 0, 1) := by decide +kernel
theorem dX7_init_76 : decode cX7_init 76 = .ok (.sipush 200, 3) := by decide +kernel
theorem dX7_init_79 : decode cX7_init 79 = .ok (.newarray .int, 2) := by decide +kernel
theorem dX7_init_81 : decode cX7_init 81 = .ok (.putfield 35, 3) := by decide +kernel
theorem dX7_init_84 : decode cX7_init 84 = .ok (.aload_n 0, 1) := by decide +kernel
theorem dX7_init_85 : decode cX7_init 85 = .ok (.bipush 40, 2) := by decide +kernel
theorem dX7_init_87 : decode cX7_init 87 = .ok (.newarray .int, 2) := by decide +kernel
theorem dX7_init_89 : decode cX7_init 89 = .ok (.putfield 38, 3) := by decide +kernel
theorem dX7_init_92 : decode cX7_init 92 = .ok (.aload_n 0, 1) := by decide +kernel
theorem dX7_init_93 : decode cX7_init 93 = .ok (.bipush 40, 2) := by decide +kernel
theorem dX7_init_95 : decode cX7_init 95 = .ok (.newarray .int, 2) := by decide +kernel
theorem dX7_init_97 : decode cX7_init 97 = .ok (.putfield 41, 3) := by decide +kernel
theorem dX7_init_100 : decode cX7_init 100 = .ok (.aload_n 0, 1) := by decide +kernel
theorem dX7_init_101 : decode cX7_init 101 = .ok (.bipush 8, 2) := by decide +kernel
theorem dX7_init_103 : decode cX7_init 103 = .ok (.newarray .int, 2) := by decide +kernel
theorem dX7_init_105 : decode cX7_init 105 = .ok (.putfield 44, 3) := by decide +kernel
theorem dX7_init_108 : decode cX7_init 108 = .ok (.aload_n 0, 1) := by decide +kernel
theorem dX7_init_109 : decode cX7_init 109 = .ok (.bipush 8, 2) := by decide +kernel
theorem dX7_init_111 : decode cX7_init 111 = .ok (.newarray .int, 2) := by decide +kernel
theorem dX7_init_113 : decode cX7_init 113 = .ok (.dup, 1) := by decide +kernel
theorem dX7_init_114 : decode cX7_init 114 = .ok (.iconst 0, 1) := by decide +kernel
theorem dX7_init_115 : decode cX7_init 115 = .ok (.iconst (-1), 1) := by decide +kernel
theorem dX7_init_116 : decode cX7_init 116 = .ok (.iastore, 1) := by decide +kernel
theorem dX7_init_117 : decode cX7_init 117 = .ok (.dup, 1) := by decide +kernel
theorem dX7_init_118 : decode cX7_init 118 = .ok (.iconst 1, 1) := by decide +kernel
theorem dX7_init_119 : decode cX7_init 119 = .ok (.iconst (-1), 1) := by decide +kernel
theorem dX7_init_120 : decode cX7_init 120 = .ok (.iastore, 1) := by decide +kernel
theorem dX7_init_121 : decode cX7_init 121 = .ok (.dup, 1) := by decide +kernel
theorem dX7_init_122 : decode cX7_init 122 = .ok (.iconst 2, 1) := by decide +kernel
theorem dX7_init_123 : decode cX7_init 123 = .ok (.iconst (-1), 1) := by decide +kernel
theorem dX7_init_124 : decode cX7_init 124 = .ok (.iastore, 1) := by decide +kernel
theorem dX7_init_125 : decode cX7_init 125 = .ok (.dup, 1) := by decide +kernel
theorem dX7_init_126 : decode cX7_init 126 = .ok (.iconst 3, 1) := by decide +kernel
theorem dX7_init_127 : decode cX7_init 127 = .ok (.iconst (-1), 1) := by decide +kernel
theorem dX7_init_128 : decode cX7_init 128 = .ok (.iastore, 1) := by decide +kernel
theorem dX7_init_129 : decode cX7_init 129 = .ok (.dup, 1) := by decide +kernel
theorem dX7_init_130 : decode cX7_init 130 = .ok (.iconst 4, 1) := by decide +kernel
theorem dX7_init_131 : decode cX7_init 131 = .ok (.iconst (-1), 1) := by decide +kernel
theorem dX7_init_132 : decode cX7_init 132 = .ok (.iastore, 1) := by decide +kernel
theorem dX7_init_133 : decode cX7_init 133 = .ok (.dup, 1) := by decide +kernel
theorem dX7_init_134 : decode cX7_init 134 = .ok (.iconst 5, 1) := by decide +kernel
theorem dX7_init_135 : decode cX7_init 135 = .ok (.iconst (-1), 1) := by decide +kernel
theorem dX7_init_136 : decode cX7_init 136 = .ok (.iastore, 1) := by decide +kernel
theorem dX7_init_137 : decode cX7_init 137 = .ok (.dup, 1) := by decide +kernel
theorem dX7_init_138 : decode cX7_init 138 = .ok (.bipush 6, 2) := by decide +kernel
theorem dX7_init_140 : decode cX7_init 140 = .ok (.iconst (-1), 1) := by decide +kernel
theorem dX7_init_141 : decode cX7_init 141 = .ok (.iastore, 1) := by decide +kernel
theorem dX7_init_142 : decode cX7_init 142 = .ok (.dup, 1) := by decide +kernel
theorem dX7_init_143 : decode cX7_init 143 = .ok (.bipush 7, 2) := by decide +kernel
theorem dX7_init_145 : decode cX7_init 145 = .ok (.iconst (-1), 1) := by decide +kernel
theorem dX7_init_146 : decode cX7_init 146 = .ok (.iastore, 1) := by decide +kernel
theorem dX7_init_147 : decode cX7_init 147 = .ok (.putfield 47, 3) := by decide +kernel
theorem dX7_init_150 : decode cX7_init 150 = .ok (.aload_n 0, 1) := by decide +kernel
theorem dX7_init_151 : decode cX7_init 151 = .ok (.sipush 400, 3) := by decide +kernel
theorem dX7_init_154 : decode cX7_init 154 = .ok (.newarray .int, 2) := by decide +kernel
theorem dX7_init_156 : decode cX7_init 156 = .ok (.putfield 50, 3) := by decide +kernel
theorem dX7_init_159 : decode cX7_init 159 = .ok (.aload_n 0, 1) := by decide +kernel
theorem dX7_init_160 : decode cX7_init 160 = .ok (.sipush 400, 3) := by decide +kernel
theorem dX7_init_163 : decode cX7_init 163 = .ok (.newarray .int, 2) := by decide +kernel
theorem dX7_init_165 : decode cX7_init 165 = .ok (.putfield 53, 3) := by decide +kernel
theorem dX7_init_168 : decode cX7_init 168 = .ok (.aload_n 0, 1) := by decide +kernel
theorem dX7_init_169 : decode cX7_init 169 = .ok (.sipush 400, 3) := by decide +kernel
theorem dX7_init_172 : decode cX7_init 172 = .ok (.newarray .int, 2) := by decide +kernel
theorem dX7_init_174 : decode cX7_init 174 = .ok (.putfield 56, 3) := by decide +kernel
theorem dX7_init_177 : decode cX7_init 177 = .ok (.aload_n 0, 1) := by decide +kernel
theorem dX7_init_178 : decode cX7_init 178 = .ok (.sipush 400, 3) := by decide +kernel
theorem dX7_init_181 : decode cX7_init 181 = .ok (.newarray .int, 2) := by decide +kernel
theorem dX7_init_183 : decode cX7_init 183 = .ok (.putfield 59, 3) := by decide +kernel
theorem dX7_init_186 : decode cX7_init 186 = .ok (.aload_n 0, 1) := by decide +kernel
theorem dX7_init_187 : decode cX7_init 187 = .ok (.sipush 400, 3) := by decide +kernel
theorem dX7_init_190 : decode cX7_init 190 = .ok (.newarray .int, 2) := by decide +kernel
theorem dX7_init_192 : decode cX7_init 192 = .ok (.putfield 62, 3) := by decide +kernel
theorem dX7_init_195 : decode cX7_init 195 = .ok (.aload_n 0, 1) := by decide +kernel
theorem dX7_init_196 : decode cX7_init 196 = .ok (.sipush 400, 3) := by decide +kernel
theorem dX7_init_199 : decode cX7_init 199 = .ok (.newarray .int, 2) := by decide +kernel
theorem dX7_init_201 : decode cX7_init 201 = .ok (.putfield 65, 3) := by decide +kernel
theorem dX7_init_204 : decode cX7_init 204 = .ok (.aload_n 0, 1) := by decide +kernel
theorem dX7_init_205 : decode cX7_init 205 = .ok (.sipush 400, 3) := by decide +kernel
theorem dX7_init_208 : decode cX7_init 208 = .ok (.newarray .int, 2) := by decide +kernel
theorem dX7_init_210 : decode cX7_init 210 = .ok (.putfield 68, 3) := by decide +kernel
theorem dX7_init_213 : decode cX7_init 213 = .ok (.aload_n 0, 1) := by decide +kernel
theorem dX7_init_214 : decode cX7_init 214 = .ok (.bipush 16, 2) := by decide +kernel
theorem dX7_init_216 : decode cX7_init 216 = .ok (.newarray .long, 2) := by decide +kernel
theorem dX7_init_218 : decode cX7_init 218 = .ok (.putfield 71, 3) := by decide +kernel
theorem dX7_init_221 : decode cX7_init 221 = .ok (.aload_n 0, 1) := by decide +kernel
theorem dX7_init_222 : decode cX7_init 222 = .ok (.bipush 16, 2) := by decide +kernel
theorem dX7_init_224 : decode cX7_init 224 = .ok (.newarray .boolean, 2) := by decide +kernel
theorem dX7_init_226 : decode cX7_init 226 = .ok (.putfield 75, 3) := by decide +kernel
theorem dX7_init_229 : decode cX7_init 229 = .ok (.aload_n 0, 1) := by decide +kernel
theorem dX7_init_230 : decode cX7_init 230 = .ok (.bipush 16, 2) := by decide +kernel
theorem dX7_init_232 : decode cX7_init 232 = .ok (.newarray .int, 2) := by decide +kernel
theorem dX7_init_234 : decode cX7_init 234 = .ok (.dup, 1) := by decide +kernel
theorem dX7_init_235 : decode cX7_init 235 = .ok (.iconst 0, 1) := by decide +kernel
theorem dX7_init_236 : decode cX7_init 236 = .ok (.iconst (-1), 1) := by decide +kernel
theorem dX7_init_237 : decode cX7_init 237 = .ok (.iastore, 1) := by decide +kernel
theorem dX7_init_238 : decode cX7_init 238 = .ok (.dup, 1) := by decide +kernel
theorem dX7_init_239 : decode cX7_init 239 = .ok (.iconst 1, 1) := by decide +kernel
theorem dX7_init_240 : decode cX7_init 240 = .ok (.iconst (-1), 1) := by decide +kernel
theorem dX7_init_241 : decode cX7_init 241 = .ok (.iastore, 1) := by decide +kernel
theorem dX7_init_242 : decode cX7_init 242 = .ok (.dup, 1) := by decide +kernel
theorem dX7_init_243 : decode cX7_init 243 = .ok (.iconst 2, 1) := by decide +kernel
theorem dX7_init_244 : decode cX7_init 244 = .ok (.iconst (-1), 1) := by decide +kernel
theorem dX7_init_245 : decode cX7_init 245 = .ok (.iastore, 1) := by decide +kernel
theorem dX7_init_246 : decode cX7_init 246 = .ok (.dup, 1) := by decide +kernel
theorem dX7_init_247 : decode cX7_init 247 = .ok (.iconst 3, 1) := by decide +kernel
theorem dX7_init_248 : decode cX7_init 248 = .ok (.iconst (-1), 1) := by decide +kernel
theorem dX7_init_249 : decode cX7_init 249 = .ok (.iastore, 1) := by decide +kernel
theorem dX7_init_250 : decode cX7_init 250 = .ok (.dup, 1) := by decide +kernel
theorem dX7_init_251 : decode cX7_init 251 = .ok (.iconst 4, 1) := by decide +kernel
theorem dX7_init_252 : decode cX7_init 252 = .ok (.iconst (-1), 1) := by decide +kernel
theorem dX7_init_253 : decode cX7_init 253 = .ok (.iastore, 1) := by decide +kernel
theorem dX7_init_254 : decode cX7_init 254 = .ok (.dup, 1) := by decide +kernel
theorem dX7_init_255 : decode cX7_init 255 = .ok (.iconst 5, 1) := by decide +kernel
theorem dX7_init_256 : decode cX7_init 256 = .ok (.iconst (-1), 1) := by decide +kernel
theorem dX7_init_257 : decode cX7_init 257 = .ok (.iastore, 1) := by decide +kernel
theorem dX7_init_258 : decode cX7_init 258 = .ok (.dup, 1) := by decide +kernel
theorem dX7_init_259 : decode cX7_init 259 = .ok (.bipush 6, 2) := by decide +kernel
theorem dX7_init_261 : decode cX7_init 261 = .ok (.iconst (-1), 1) := by decide +kernel
theorem dX7_init_262 : decode cX7_init 262 = .ok (.iastore, 1) := by decide +kernel
theorem dX7_init_263 : decode cX7_init 263 = .ok (.dup, 1) := by decide +kernel
theorem dX7_init_264 : decode cX7_init 264 = .ok (.bipush 7, 2) := by decide +kernel
theorem dX7_init_266 : decode cX7_init 266 = .ok (.iconst (-1), 1) := by decide +kernel
theorem dX7_init_267 : decode cX7_init 267 = .ok (.iastore, 1) := by decide +kernel
theorem dX7_init_268 : decode cX7_init 268 = .ok (.dup, 1) := by decide +kernel
theorem dX7_init_269 : decode cX7_init 269 = .ok (.bipush 8, 2) := by decide +kernel
theorem dX7_init_271 : decode cX7_init 271 = .ok (.iconst (-1), 1) := by decide +kernel
theorem dX7_init_272 : decode cX7_init 272 = .ok (.iastore, 1) := by decide +kernel
theorem dX7_init_273 : decode cX7_init 273 = .ok (.dup, 1) := by decide +kernel
theorem dX7_init_274 : decode cX7_init 274 = .ok (.bipush 9, 2) := by decide +kernel
theorem dX7_init_276 : decode cX7_init 276 = .ok (.iconst (-1), 1) := by decide +kernel
theorem dX7_init_277 : decode cX7_init 277 = .ok (.iastore, 1) := by decide +kernel
theorem dX7_init_278 : decode cX7_init 278 = .ok (.dup, 1) := by decide +kernel
theorem dX7_init_279 : decode cX7_init 279 = .ok (.bipush 10, 2) := by decide +kernel
theorem dX7_init_281 : decode cX7_init 281 = .ok (.iconst (-1), 1) := by decide +kernel
theorem dX7_init_282 : decode cX7_init 282 = .ok (.iastore, 1) := by decide +kernel
theorem dX7_init_283 : decode cX7_init 283 = .ok (.dup, 1) := by decide +kernel
theorem dX7_init_284 : decode cX7_init 284 = .ok (.bipush 11, 2) := by decide +kernel
theorem dX7_init_286 : decode cX7_init 286 = .ok (.iconst (-1), 1) := by decide +kernel
theorem dX7_init_287 : decode cX7_init 287 = .ok (.iastore, 1) := by decide +kernel
theorem dX7_init_288 : decode cX7_init 288 = .ok (.dup, 1) := by decide +kernel
theorem dX7_init_289 : decode cX7_init 289 = .ok (.bipush 12, 2) := by decide +kernel
theorem dX7_init_291 : decode cX7_init 291 = .ok (.iconst (-1), 1) := by decide +kernel
theorem dX7_init_292 : decode cX7_init 292 = .ok (.iastore, 1) := by decide +kernel
theorem dX7_init_293 : decode cX7_init 293 = .ok (.dup, 1) := by decide +kernel
theorem dX7_init_294 : decode cX7_init 294 = .ok (.bipush 13, 2) := by decide +kernel
theorem dX7_init_296 : decode cX7_init 296 = .ok (.iconst (-1), 1) := by decide +kernel
theorem dX7_init_297 : decode cX7_init 297 = .ok (.iastore, 1) := by decide +kernel
theorem dX7_init_298 : decode cX7_init 298 = .ok (.dup, 1) := by decide +kernel
theorem dX7_init_299 : decode cX7_init 299 = .ok (.bipush 14, 2) := by decide +kernel
theorem dX7_init_301 : decode cX7_init 301 = .ok (.iconst (-1), 1) := by decide +kernel
theorem dX7_init_302 : decode cX7_init 302 = .ok (.iastore, 1) := by decide +kernel
theorem dX7_init_303 : decode cX7_init 303 = .ok (.dup, 1) := by decide +kernel
theorem dX7_init_304 : decode cX7_init 304 = .ok (.bipush 15, 2) := by decide +kernel
theorem dX7_init_306 : decode cX7_init 306 = .ok (.iconst (-1), 1) := by decide +kernel
theorem dX7_init_307 : decode cX7_init 307 = .ok (.iastore, 1) := by decide +kernel
theorem dX7_init_308 : decode cX7_init 308 = .ok (.putfield 79, 3) := by decide +kernel
theorem dX7_init_311 : decode cX7_init 311 = .ok (.aload_n 0, 1) := by decide +kernel
theorem dX7_init_312 : decode cX7_init 312 = .ok (.sipush 400, 3) := by decide +kernel
theorem dX7_init_315 : decode cX7_init 315 = .ok (.newarray .long, 2) := by decide +kernel
theorem dX7_init_317 : decode cX7_init 317 = .ok (.putfield 82, 3) := by decide +kernel
theorem dX7_init_320 : decode cX7_init 320 = .ok (.aload_n 0, 1) := by decide +kernel
theorem dX7_init_321 : decode cX7_init 321 = .ok (.sipush 4000, 3) := by decide +kernel
theorem dX7_init_324 : decode cX7_init 324 = .ok (.newarray .int, 2) := by decide +kernel
theorem dX7_init_326 : decode cX7_init 326 = .ok (.putfield 85, 3) := by decide +kernel
theorem dX7_init_329 : decode cX7_init 329 = .ok (.aload_n 0, 1) := by decide +kernel
theorem dX7_init_330 : decode cX7_init 330 = .ok (.sipush 4000, 3) := by decide +kernel
theorem dX7_init_333 : decode cX7_init 333 = .ok (.newarray .int, 2) := by decide +kernel
theorem dX7_init_335 : decode cX7_init 335 = .ok (.putfield 88, 3) := by decide +kernel
theorem dX7_init_338 : decode cX7_init 338 = .ok (.aload_n 0, 1) := by decide +kernel
theorem dX7_init_339 : decode cX7_init 339 = .ok (.sipush 4000, 3) := by decide +kernel
theorem dX7_init_342 : decode cX7_init 342 = .ok (.newarray .int, 2) := by decide +kernel
theorem dX7_init_344 : decode cX7_init 344 = .ok (.putfield 91, 3) := by decide +kernel
theorem dX7_init_347 : decode cX7_init 347 = .ok (.aload_n 0, 1) := by decide +kernel
theorem dX7_init_348 : decode cX7_init 348 = .ok (.sipush 4000, 3) := by decide +kernel
theorem dX7_init_351 : decode cX7_init 351 = .ok (.newarray .int, 2) := by decide +kernel
theorem dX7_init_353 : decode cX7_init 353 = .ok (.putfield 94, 3) := by decide +kernel
theorem dX7_init_356 : decode cX7_init 356 = .ok (.aload_n 0, 1) := by decide +kernel
theorem dX7_init_357 : decode cX7_init 357 = .ok (.sipush 4000, 3) := by decide +kernel
theorem dX7_init_360 : decode cX7_init 360 = .ok (.newarray .int, 2) := by decide +kernel
theorem dX7_init_362 : decode cX7_init 362 = .ok (.putfield 97, 3) := by decide +kernel
theorem dX7_init_365 : decode cX7_init 365 = .ok (.aload_n 0, 1) := by decide +kernel
theorem dX7_init_366 : decode cX7_init 366 = .ok (.sipush 4000, 3) := by decide +kernel
theorem dX7_init_369 : decode cX7_init 369 = .ok (.newarray .int, 2) := by decide +kernel
theorem dX7_init_371 : decode cX7_init 371 = .ok (.putfield 100, 3) := by decide +kernel
theorem dX7_init_374 : decode cX7_init 374 = .ok (.aload_n 0, 1) := by decide +kernel
theorem dX7_init_375 : decode cX7_init 375 = .ok (.sipush 4000, 3) := by decide +kernel
theorem dX7_init_378 : decode cX7_init 378 = .ok (.newarray .int, 2) := by decide +kernel
theorem dX7_init_380 : decode cX7_init 380 = .ok (.putfield 103, 3) := by decide +kernel
theorem dX7_init_383 : decode cX7_init 383 = .ok (.aload_n 0, 1) := by decide +kernel
theorem dX7_init_384 : decode cX7_init 384 = .ok (.sipush 4000, 3) := by decide +kernel
theorem dX7_init_387 : decode cX7_init 387 = .ok (.newarray .int, 2) := by decide +kernel
theorem dX7_init_389 : decode cX7_init 389 = .ok (.putfield 106, 3) := by decide +kernel
theorem dX7_init_392 : decode cX7_init 392 = .ok (.aload_n 0, 1) := by decide +kernel
theorem dX7_init_393 : decode cX7_init 393 = .ok (.sipush 4000, 3) := by decide +kernel
theorem dX7_init_396 : decode cX7_init 396 = .ok (.newarray .int, 2) := by decide +kernel
theorem dX7_init_398 : decode cX7_init 398 = .ok (.putfield 109, 3) := by decide +kernel
theorem dX7_init_401 : decode cX7_init 401 = .ok (.aload_n 0, 1) := by decide +kernel
theorem dX7_init_402 : decode cX7_init 402 = .ok (.sipush 2000, 3) := by decide +kernel
theorem dX7_init_405 : decode cX7_init 405 = .ok (.newarray .int, 2) := by decide +kernel
theorem dX7_init_407 : decode cX7_init 407 = .ok (.putfield 112, 3) := by decide +kernel
theorem dX7_init_410 : decode cX7_init 410 = .ok (.aload_n 0, 1) := by decide +kernel
theorem dX7_init_411 : decode cX7_init 411 = .ok (.sipush 400, 3) := by decide +kernel
theorem dX7_init_414 : decode cX7_init 414 = .ok (.newarray .boolean, 2) := by decide +kernel
theorem dX7_init_416 : decode cX7_init 416 = .ok (.putfield 115, 3) := by decide +kernel
theorem dX7_init_419 : decode cX7_init 419 = .ok (.aload_n 0, 1) := by decide +kernel
theorem dX7_init_420 : decode cX7_init 420 = .ok (.bipush 6, 2) := by decide +kernel
theorem dX7_init_422 : decode cX7_init 422 = .ok (.newarray .int, 2) := by decide +kernel
theorem dX7_init_424 : decode cX7_init 424 = .ok (.putfield 118, 3) := by decide +kernel
theorem dX7_init_427 : decode cX7_init 427 = .ok (.return_, 1) := by decide +kernel
theorem dX7_in_0 : decode cX7_in 0 = .ok (.iload_n 0, 1) := by decide +kernel
theorem dX7_in_1 : decode cX7_in 1 = .ok (.iload_n 1, 1) := by decide +kernel
theorem dX7_in_2 : decode cX7_in 2 = .ok (.if_icmp .lt 12, 3) := by decide +kernel
theorem dX7_in_5 : decode cX7_in 5 = .ok (.iload_n 0, 1) := by decide +kernel
theorem dX7_in_6 : decode cX7_in 6 = .ok (.iload_n 2, 1) := by decide +kernel
theorem dX7_in_7 : decode cX7_in 7 = .ok (.if_icmp .gt 7, 3) := by decide +kernel
theorem dX7_in_10 : decode cX7_in 10 = .ok (.iconst 1, 1) := by decide +kernel
theorem dX7_in_11 : decode cX7_in 11 = .ok (.goto 4, 3) := by decide +kernel
theorem dX7_in_14 : decode cX7_in 14 = .ok (.iconst 0, 1) := by decide +kernel
theorem dX7_in_15 : decode cX7_in 15 = .ok (.ireturn, 1) := by decide +kernel
set_option maxRecDepth 20000 in
theorem ggX7_feed_X7_bytes : GoodIn wsX7_feed wsX7_bytes := goodIn_r _ [6, 7, 1, 8, 9, 10, 11, 12, 13, 14, 15, 16, 17, 18, 19, 20, 21, 22, 23, 24, 25, 26, 27, 28, 29, 30, 31, 32, 33, 34, 35, 36, 37, 38, 39, 40, 41, 42, 43, 44, 45, 46, 47, 48, 49, 50, 51, 52, 53, 54, 55, 56, 57, 58, 59, 60, 61, 62, 63] (by decide +kernel) (by decide +kernel)
set_option maxRecDepth 20000 in
theorem gX7_feed_X7_bytes : GoodIn wsX7_feed (wsV RX7 128 RX7 yX7_bytes wsX7_bytes) := goodIn_app (goodIn_of _ (by decide +kernel)) ggX7_feed_X7_bytes
theorem dX7_feed_0 : decode cX7_feed 0 = .ok (.aload_n 0, 1) := by decide +kernel
theorem dX7_feed_1 : decode cX7_feed 1 = .ok (.getfield 125, 3) := by decide +kernel
theorem dX7_feed_4 : decode cX7_feed 4 = .ok (.bipush 20, 2) := by decide +kernel
theorem dX7_feed_6 : decode cX7_feed 6 = .ok (.iadd, 1) := by decide +kernel
theorem dX7_feed_7 : decode cX7_feed 7 = .ok (.sipush 800, 3) := by decide +kernel
theorem dX7_feed_10 : decode cX7_feed 10 = .ok (.if_icmp .le 6, 3) := by decide +kernel
theorem dX7_feed_13 : decode cX7_feed 13 = .ok (.bipush (-3), 2) := by decide +kernel
theorem dX7_feed_15 : decode cX7_feed 15 = .ok (.ireturn, 1) := by decide +kernel
theorem dX7_feed_16 : decode cX7_feed 16 = .ok (.aload_n 0, 1) := by decide +kernel
theorem dX7_feed_17 : decode cX7_feed 17 = .ok (.iload_n 1, 1) := by decide +kernel
theorem dX7_feed_18 : decode cX7_feed 18 = .ok (.invokevirtual 128, 3) := by decide +kernel
theorem dX7_feed_21 : decode cX7_feed 21 = .ok (.aload_n 0, 1) := by decide +kernel
theorem dX7_feed_22 : decode cX7_feed 22 = .ok (.iload_n 2, 1) := by decide +kernel
theorem dX7_feed_23 : decode cX7_feed 23 = .ok (.invokevirtual 128, 3) := by decide +kernel
theorem dX7_feed_26 : decode cX7_feed 26 = .ok (.aload_n 0, 1) := by decide +kernel
theorem dX7_feed_27 : decode cX7_feed 27 = .ok (.iload_n 3, 1) := by decide +kernel
theorem dX7_feed_28 : decode cX7_feed 28 = .ok (.invokevirtual 128, 3) := by decide +kernel
theorem dX7_feed_31 : decode cX7_feed 31 = .ok (.aload_n 0, 1) := by decide +kernel
theorem dX7_feed_32 : decode cX7_feed 32 = .ok (.iload 4, 2) := by decide +kernel
theorem dX7_feed_34 : decode cX7_feed 34 = .ok (.invokevirtual 128, 3) := by decide +kernel
theorem dX7_feed_37 : decode cX7_feed 37 = .ok (.aload_n 0, 1) := by decide +kernel
theorem dX7_feed_38 : decode cX7_feed 38 = .ok (.iload 5, 2) := by decide +kernel
theorem dX7_feed_40 : decode cX7_feed 40 = .ok (.invokevirtual 128, 3) := by decide +kernel
theorem dX7_feed_43 : decode cX7_feed 43 = .ok (.aload_n 0, 1) := by decide +kernel
theorem dX7_feed_44 : decode cX7_feed 44 = .ok (.getfield 125, 3) := by decide +kernel
theorem dX7_feed_47 : decode cX7_feed 47 = .ok (.ireturn, 1) := by decide +kernel
theorem dX7_bytes_0 : decode cX7_bytes 0 = .ok (.iconst 3, 1) := by decide +kernel
theorem dX7_bytes_1 : decode cX7_bytes 1 = .ok (.istore_n 2, 1) := by decide +kernel
theorem dX7_bytes_2 : decode cX7_bytes 2 = .ok (.iload_n 2, 1) := by decide +kernel
theorem dX7_bytes_3 : decode cX7_bytes 3 = .ok (.ifCond .lt 35, 3) := by decide +kernel
theorem dX7_bytes_6 : decode cX7_bytes 6 = .ok (.aload_n 0, 1) := by decide +kernel
theorem dX7_bytes_7 : decode cX7_bytes 7 = .ok (.getfield 7, 3) := by decide +kernel
theorem dX7_bytes_10 : decode cX7_bytes 10 = .ok (.aload_n 0, 1) := by decide +kernel
theorem dX7_bytes_11 : decode cX7_bytes 11 = .ok (.getfield 125, 3) := by decide +kernel
theorem dX7_bytes_14 : decode cX7_bytes 14 = .ok (.iload_n 1, 1) := by decide +kernel
theorem dX7_bytes_15 : decode cX7_bytes 15 = .ok (.bipush 8, 2) := by decide +kernel
theorem dX7_bytes_17 : decode cX7_bytes 17 = .ok (.iload_n 2, 1) := by decide +kernel
theorem dX7_bytes_18 : decode cX7_bytes 18 = .ok (.imul, 1) := by decide +kernel
theorem dX7_bytes_19 : decode cX7_bytes 19 = .ok (.ishr, 1) := by decide +kernel
theorem dX7_bytes_20 : decode cX7_bytes 20 = .ok (.i2b, 1) := by decide +kernel
theorem dX7_bytes_21 : decode cX7_bytes 21 = .ok (.bastore, 1) := by decide +kernel
theorem dX7_bytes_22 : decode cX7_bytes 22 = .ok (.aload_n 0, 1) := by decide +kernel
theorem dX7_bytes_23 : decode cX7_bytes 23 = .ok (.dup, 1) := by decide +kernel
theorem dX7_bytes_24 : decode cX7_bytes 24 = .ok (.getfield 125, 3) := by decide +kernel
theorem dX7_bytes_27 : decode cX7_bytes 27 = .ok (.iconst 1, 1) := by decide +kernel
theorem dX7_bytes_28 : decode cX7_bytes 28 = .ok (.iadd, 1) := by decide +kernel
theorem dX7_bytes_29 : decode cX7_bytes 29 = .ok (.putfield 125, 3) := by decide +kernel
theorem dX7_bytes_32 : decode cX7_bytes 32 = .ok (.iinc 2 (-1), 3) := by decide +kernel
theorem dX7_bytes_35 : decode cX7_bytes 35 = .ok (.goto (-33), 3) := by decide +kernel
theorem dX7_bytes_38 : decode cX7_bytes 38 = .ok (.return_, 1) := by decide +kernel
set_option maxRecDepth 20000 in
theorem ggX7_end_X7_in : GoodIn wsX7_end wsX7_in := goodIn_r _ [5] (by decide +kernel) (by decide +kernel)
set_option maxRecDepth 20000 in
theorem gX7_end_X7_in : GoodIn wsX7_end (va_wsS RX7 132 yX7_in wsX7_in) := goodIn_app (goodIn_of _ (by decide +kernel)) ggX7_end_X7_in
theorem dX7_end_0 : decode cX7_end 0 = .ok (.iload_n 1, 1) := by decide +kernel
theorem dX7_end_1 : decode cX7_end 1 = .ok (.iconst 0, 1) := by decide +kernel
theorem dX7_end_2 : decode cX7_end 2 = .ok (.aload_n 0, 1) := by decide +kernel
theorem dX7_end_3 : decode cX7_end 3 = .ok (.getfield 125, 3) := by decide +kernel
theorem dX7_end_6 : decode cX7_end 6 = .ok (.invokestatic 132, 3) := by decide +kernel
theorem dX7_end_9 : decode cX7_end 9 = .ok (.ifCond .ne 5, 3) := by decide +kernel
theorem dX7_end_12 : decode cX7_end 12 = .ok (.iconst (-1), 1) := by decide +kernel
theorem dX7_end_13 : decode cX7_end 13 = .ok (.ireturn, 1) := by decide +kernel
theorem dX7_end_14 : decode cX7_end 14 = .ok (.aload_n 0, 1) := by decide +kernel
theorem dX7_end_15 : decode cX7_end 15 = .ok (.iload_n 1, 1) := by decide +kernel
theorem dX7_end_16 : decode cX7_end 16 = .ok (.putfield 125, 3) := by decide +kernel
theorem dX7_end_19 : decode cX7_end 19 = .ok (.iload_n 1, 1) := by decide +kernel
theorem dX7_end_20 : decode cX7_end 20 = .ok (.ireturn, 1) := by decide +kernel
theorem dX7_isLetter_0 : decode cX7_isLetter 0 = .ok (.iload_n 0, 1) := by decide +kernel
theorem dX7_isLetter_1 : decode cX7_isLetter 1 = .ok (.bipush 97, 2) := by decide +kernel
theorem dX7_isLetter_3 : decode cX7_isLetter 3 = .ok (.if_icmp .lt 13, 3) := by decide +kernel
theorem dX7_isLetter_6 : decode cX7_isLetter 6 = .ok (.iload_n 0, 1) := by decide +kernel
theorem dX7_isLetter_7 : decode cX7_isLetter 7 = .ok (.bipush 122, 2) := by decide +kernel
theorem dX7_isLetter_9 : decode cX7_isLetter 9 = .ok (.if_icmp .gt 7, 3) := by decide +kernel
theorem dX7_isLetter_12 : decode cX7_isLetter 12 = .ok (.iconst 1, 1) := by decide +kernel
theorem dX7_isLetter_13 : decode cX7_isLetter 13 = .ok (.goto 4, 3) := by decide +kernel
theorem dX7_isLetter_16 : decode cX7_isLetter 16 = .ok (.iconst 0, 1) := by decide +kernel
theorem dX7_isLetter_17 : decode cX7_isLetter 17 = .ok (.ireturn, 1) := by decide +kernel
theorem dX7_isDigit_0 : decode cX7_isDigit 0 = .ok (.iload_n 0, 1) := by decide +kernel
theorem dX7_isDigit_1 : decode cX7_isDigit 1 = .ok (.bipush 48, 2) := by decide +kernel
theorem dX7_isDigit_3 : decode cX7_isDigit 3 = .ok (.if_icmp .lt 13, 3) := by decide +kernel
theorem dX7_isDigit_6 : decode cX7_isDigit 6 = .ok (.iload_n 0, 1) := by decide +kernel
theorem dX7_isDigit_7 : decode cX7_isDigit 7 = .ok (.bipush 57, 2) := by decide +kernel
theorem dX7_isDigit_9 : decode cX7_isDigit 9 = .ok (.if_icmp .gt 7, 3) := by decide +kernel
theorem dX7_isDigit_12 : decode cX7_isDigit 12 = .ok (.iconst 1, 1) := by decide +kernel
theorem dX7_isDigit_13 : decode cX7_isDigit 13 = .ok (.goto 4, 3) := by decide +kernel
theorem dX7_isDigit_16 : decode cX7_isDigit 16 = .ok (.iconst 0, 1) := by decide +kernel
theorem dX7_isDigit_17 : decode cX7_isDigit 17 = .ok (.ireturn, 1) := by decide +kernel
set_option maxRecDepth 20000 in
theorem ggX7_advance_X7_isLetter : GoodIn wsX7_advance wsX7_isLetter := goodIn_r _ [13] (by decide +kernel) (by decide +kernel)
set_option maxRecDepth 20000 in
theorem gX7_advance_X7_isLetter : GoodIn wsX7_advance (va_wsS RX7 145 yX7_isLetter wsX7_isLetter) := goodIn_app (goodIn_of _ (by decide +kernel)) ggX7_advance_X7_isLetter
set_option maxRecDepth 20000 in
theorem ggX7_advance_X7_wordOf : GoodIn wsX7_advance wsX7_wordOf := goodIn_r _ [16, 17, 18, 19, 20, 21, 22, 23, 24, 25, 26, 27, 28, 29, 30, 31, 32, 33, 34, 35, 36, 37] (by decide +kernel) (by decide +kernel)
set_option maxRecDepth 20000 in
theorem gX7_advance_X7_wordOf : GoodIn wsX7_advance (va_wsS RX7 153 yX7_wordOf wsX7_wordOf) := goodIn_app (goodIn_of _ (by decide +kernel)) ggX7_advance_X7_wordOf
set_option maxRecDepth 20000 in
theorem ggX7_advance_X7_isDigit : GoodIn wsX7_advance wsX7_isDigit := goodIn_r _ [40] (by decide +kernel) (by decide +kernel)
set_option maxRecDepth 20000 in
theorem gX7_advance_X7_isDigit : GoodIn wsX7_advance (va_wsS RX7 157 yX7_isDigit wsX7_isDigit) := goodIn_app (goodIn_of _ (by decide +kernel)) ggX7_advance_X7_isDigit
theorem dX7_advance_0 : decode cX7_advance 0 = .ok (.aload_n 0, 1) := by decide +kernel
theorem dX7_advance_1 : decode cX7_advance 1 = .ok (.getfield 136, 3) := by decide +kernel
theorem dX7_advance_4 : decode cX7_advance 4 = .ok (.aload_n 0, 1) := by decide +kernel
theorem dX7_advance_5 : decode cX7_advance 5 = .ok (.getfield 125, 3) := by decide +kernel
theorem dX7_advance_8 : decode cX7_advance 8 = .ok (.if_icmp .ge 44, 3) := by decide +kernel
theorem dX7_advance_11 : decode cX7_advance 11 = .ok (.aload_n 0, 1) := by decide +kernel
theorem dX7_advance_12 : decode cX7_advance 12 = .ok (.getfield 7, 3) := by decide +kernel
theorem dX7_advance_15 : decode cX7_advance 15 = .ok (.aload_n 0, 1) := by decide +kernel
theorem dX7_advance_16 : decode cX7_advance 16 = .ok (.getfield 136, 3) := by decide +kernel
theorem dX7_advance_19 : decode cX7_advance 19 = .ok (.baload, 1) := by decide +kernel
theorem dX7_advance_20 : decode cX7_advance 20 = .ok (.bipush 32, 2) := by decide +kernel
theorem dX7_advance_22 : decode cX7_advance 22 = .ok (.if_icmp .eq 17, 3) := by decide +kernel
theorem dX7_advance_25 : decode cX7_advance 25 = .ok (.aload_n 0, 1) := by decide +kernel
theorem dX7_advance_26 : decode cX7_advance 26 = .ok (.getfield 7, 3) := by decide +kernel
theorem dX7_advance_29 : decode cX7_advance 29 = .ok (.aload_n 0, 1) := by decide +kernel
theorem dX7_advance_30 : decode cX7_advance 30 = .ok (.getfield 136, 3) := by decide +kernel
theorem dX7_advance_33 : decode cX7_advance 33 = .ok (.baload, 1) := by decide +kernel
theorem dX7_advance_34 : decode cX7_advance 34 = .ok (.bipush 10, 2) := by decide +kernel
theorem dX7_advance_36 : decode cX7_advance 36 = .ok (.if_icmp .ne 16, 3) := by decide +kernel
theorem dX7_advance_39 : decode cX7_advance 39 = .ok (.aload_n 0, 1) := by decide +kernel
