theorem dX1_acceptsPart_17 : decode cX1_acceptsPart 17 = .ok (.isub, 1) := by decide +kernel
theorem dX1_acceptsPart_18 : decode cX1_acceptsPart 18 = .ok (.bipush 6, 2) := by decide +kernel
theorem dX1_acceptsPart_20 : decode cX1_acceptsPart 20 = .ok (.if_icmp .gt 14, 3) := by decide +kernel
theorem dX1_acceptsPart_23 : decode cX1_acceptsPart 23 = .ok (.aload_n 0, 1) := by decide +kernel
theorem dX1_acceptsPart_24 : decode cX1_acceptsPart 24 = .ok (.aload_n 0, 1) := by decide +kernel
theorem dX1_acceptsPart_25 : decode cX1_acceptsPart 25 = .ok (.getfield 107, 3) := by decide +kernel
theorem dX1_acceptsPart_28 : decode cX1_acceptsPart 28 = .ok (.invokevirtual 168, 3) := by decide +kernel
theorem dX1_acceptsPart_31 : decode cX1_acceptsPart 31 = .ok (.goto 35, 3) := by decide +kernel
theorem dX1_acceptsPart_34 : decode cX1_acceptsPart 34 = .ok (.aload_n 0, 1) := by decide +kernel
theorem dX1_acceptsPart_35 : decode cX1_acceptsPart 35 = .ok (.getfield 60, 3) := by decide +kernel
theorem dX1_acceptsPart_38 : decode cX1_acceptsPart 38 = .ok (.bipush 11, 2) := by decide +kernel
theorem dX1_acceptsPart_40 : decode cX1_acceptsPart 40 = .ok (.if_icmp .lt 24, 3) := by decide +kernel
theorem dX1_acceptsPart_43 : decode cX1_acceptsPart 43 = .ok (.aload_n 0, 1) := by decide +kernel
theorem dX1_acceptsPart_44 : decode cX1_acceptsPart 44 = .ok (.getfield 60, 3) := by decide +kernel
theorem dX1_acceptsPart_47 : decode cX1_acceptsPart 47 = .ok (.bipush 20, 2) := by decide +kernel
theorem dX1_acceptsPart_49 : decode cX1_acceptsPart 49 = .ok (.if_icmp .gt 15, 3) := by decide +kernel
theorem dX1_acceptsPart_52 : decode cX1_acceptsPart 52 = .ok (.aload_n 0, 1) := by decide +kernel
theorem dX1_acceptsPart_53 : decode cX1_acceptsPart 53 = .ok (.aload_n 0, 1) := by decide +kernel
theorem dX1_acceptsPart_54 : decode cX1_acceptsPart 54 = .ok (.getfield 60, 3) := by decide +kernel
theorem dX1_acceptsPart_57 : decode cX1_acceptsPart 57 = .ok (.ineg, 1) := by decide +kernel
theorem dX1_acceptsPart_58 : decode cX1_acceptsPart 58 = .ok (.invokevirtual 168, 3) := by decide +kernel
theorem dX1_acceptsPart_61 : decode cX1_acceptsPart 61 = .ok (.goto 5, 3) := by decide +kernel
theorem dX1_acceptsPart_64 : decode cX1_acceptsPart 64 = .ok (.iconst 0, 1) := by decide +kernel
theorem dX1_acceptsPart_65 : decode cX1_acceptsPart 65 = .ok (.ireturn, 1) := by decide +kernel
theorem dX1_acceptsPart_66 : decode cX1_acceptsPart 66 = .ok (.aload_n 0, 1) := by decide +kernel
theorem dX1_acceptsPart_67 : decode cX1_acceptsPart 67 = .ok (.bipush 6, 2) := by decide +kernel
theorem dX1_acceptsPart_69 : decode cX1_acceptsPart 69 = .ok (.putfield 35, 3) := by decide +kernel
theorem dX1_acceptsPart_72 : decode cX1_acceptsPart 72 = .ok (.iconst 1, 1) := by decide +kernel
theorem dX1_acceptsPart_73 : decode cX1_acceptsPart 73 = .ok (.ireturn, 1) := by decide +kernel
set_option maxRecDepth 20000 in
theorem ggX1_acceptsBehindPart_X1_isRelation : GoodIn wsX1_acceptsBehindPart wsX1_isRelation := goodIn_r _ [7] (by decide +kernel) (by decide +kernel)
set_option maxRecDepth 20000 in
theorem gX1_acceptsBehindPart_X1_isRelation : GoodIn wsX1_acceptsBehindPart (va_wsS RX1 113 yX1_isRelation wsX1_isRelation) := goodIn_app (goodIn_of _ (by decide +kernel)) ggX1_acceptsBehindPart_X1_isRelation
set_option maxRecDepth 20000 in
theorem ggX1_acceptsBehindPart_X1_isReckoning : GoodIn wsX1_acceptsBehindPart wsX1_isReckoning := goodIn_r _ [10] (by decide +kernel) (by decide +kernel)
set_option maxRecDepth 20000 in
theorem gX1_acceptsBehindPart_X1_isReckoning : GoodIn wsX1_acceptsBehindPart (va_wsS RX1 116 yX1_isReckoning wsX1_isReckoning) := goodIn_app (goodIn_of _ (by decide +kernel)) ggX1_acceptsBehindPart_X1_isReckoning
set_option maxRecDepth 20000 in
theorem ggX1_acceptsBehindPart_X1_acceptsBehindOne : GoodIn wsX1_acceptsBehindPart wsX1_acceptsBehindOne := goodIn_r _ [14, 1, 3, 15, 16, 17, 18, 6, 19, 20, 21, 22, 23, 24, 25, 26, 27, 28, 29, 30, 31, 32, 33, 34, 35, 36, 37, 38, 39, 40, 41, 42, 43, 44, 45, 46, 47, 48, 49, 50, 51, 52, 53, 54, 55, 56, 57, 58, 59, 60] (by decide +kernel) (by decide +kernel)
set_option maxRecDepth 20000 in
theorem gX1_acceptsBehindPart_X1_acceptsBehindOne : GoodIn wsX1_acceptsBehindPart (wsV RX1 161 RX1 yX1_acceptsBehindOne wsX1_acceptsBehindOne) := goodIn_app (goodIn_of _ (by decide +kernel)) ggX1_acceptsBehindPart_X1_acceptsBehindOne
set_option maxRecDepth 20000 in
theorem ggX1_acceptsBehindPart_X1_join : GoodIn wsX1_acceptsBehindPart wsX1_join := goodIn_r _ [19, 1, 20, 21, 6, 22, 23, 24, 25, 26, 27, 28, 29, 30, 31, 32, 33, 34, 35, 36, 37, 38, 39, 44, 45, 46, 47, 48, 49, 50, 51, 52, 53, 54, 55, 56, 57, 58, 59, 60] (by decide +kernel) (by decide +kernel)
set_option maxRecDepth 20000 in
theorem gX1_acceptsBehindPart_X1_join : GoodIn wsX1_acceptsBehindPart (wsV RX1 171 RX1 yX1_join wsX1_join) := goodIn_app (goodIn_of _ (by decide +kernel)) ggX1_acceptsBehindPart_X1_join
theorem dX1_acceptsBehindPart_0 : decode cX1_acceptsBehindPart 0 = .ok (.aload_n 0, 1) := by decide +kernel
theorem dX1_acceptsBehindPart_1 : decode cX1_acceptsBehindPart 1 = .ok (.getfield 60, 3) := by decide +kernel
theorem dX1_acceptsBehindPart_4 : decode cX1_acceptsBehindPart 4 = .ok (.invokestatic 113, 3) := by decide +kernel
theorem dX1_acceptsBehindPart_7 : decode cX1_acceptsBehindPart 7 = .ok (.ifCond .eq 18, 3) := by decide +kernel
theorem dX1_acceptsBehindPart_10 : decode cX1_acceptsBehindPart 10 = .ok (.aload_n 0, 1) := by decide +kernel
theorem dX1_acceptsBehindPart_11 : decode cX1_acceptsBehindPart 11 = .ok (.getfield 38, 3) := by decide +kernel
theorem dX1_acceptsBehindPart_14 : decode cX1_acceptsBehindPart 14 = .ok (.ifCond .ne 11, 3) := by decide +kernel
theorem dX1_acceptsBehindPart_17 : decode cX1_acceptsBehindPart 17 = .ok (.aload_n 0, 1) := by decide +kernel
theorem dX1_acceptsBehindPart_18 : decode cX1_acceptsBehindPart 18 = .ok (.iconst 1, 1) := by decide +kernel
theorem dX1_acceptsBehindPart_19 : decode cX1_acceptsBehindPart 19 = .ok (.putfield 38, 3) := by decide +kernel
theorem dX1_acceptsBehindPart_22 : decode cX1_acceptsBehindPart 22 = .ok (.goto 33, 3) := by decide +kernel
theorem dX1_acceptsBehindPart_25 : decode cX1_acceptsBehindPart 25 = .ok (.aload_n 0, 1) := by decide +kernel
theorem dX1_acceptsBehindPart_26 : decode cX1_acceptsBehindPart 26 = .ok (.getfield 60, 3) := by decide +kernel
theorem dX1_acceptsBehindPart_29 : decode cX1_acceptsBehindPart 29 = .ok (.invokestatic 116, 3) := by decide +kernel
theorem dX1_acceptsBehindPart_32 : decode cX1_acceptsBehindPart 32 = .ok (.ifCond .ne 23, 3) := by decide +kernel
theorem dX1_acceptsBehindPart_35 : decode cX1_acceptsBehindPart 35 = .ok (.aload_n 0, 1) := by decide +kernel
theorem dX1_acceptsBehindPart_36 : decode cX1_acceptsBehindPart 36 = .ok (.getfield 38, 3) := by decide +kernel
theorem dX1_acceptsBehindPart_39 : decode cX1_acceptsBehindPart 39 = .ok (.ifCond .eq 14, 3) := by decide +kernel
theorem dX1_acceptsBehindPart_42 : decode cX1_acceptsBehindPart 42 = .ok (.aload_n 0, 1) := by decide +kernel
theorem dX1_acceptsBehindPart_43 : decode cX1_acceptsBehindPart 43 = .ok (.invokevirtual 161, 3) := by decide +kernel
theorem dX1_acceptsBehindPart_46 : decode cX1_acceptsBehindPart 46 = .ok (.ifCond .eq 7, 3) := by decide +kernel
theorem dX1_acceptsBehindPart_49 : decode cX1_acceptsBehindPart 49 = .ok (.iconst 1, 1) := by decide +kernel
theorem dX1_acceptsBehindPart_50 : decode cX1_acceptsBehindPart 50 = .ok (.goto 4, 3) := by decide +kernel
theorem dX1_acceptsBehindPart_53 : decode cX1_acceptsBehindPart 53 = .ok (.iconst 0, 1) := by decide +kernel
theorem dX1_acceptsBehindPart_54 : decode cX1_acceptsBehindPart 54 = .ok (.ireturn, 1) := by decide +kernel
theorem dX1_acceptsBehindPart_55 : decode cX1_acceptsBehindPart 55 = .ok (.aload_n 0, 1) := by decide +kernel
theorem dX1_acceptsBehindPart_56 : decode cX1_acceptsBehindPart 56 = .ok (.invokevirtual 171, 3) := by decide +kernel
theorem dX1_acceptsBehindPart_59 : decode cX1_acceptsBehindPart 59 = .ok (.aload_n 0, 1) := by decide +kernel
theorem dX1_acceptsBehindPart_60 : decode cX1_acceptsBehindPart 60 = .ok (.iconst 5, 1) := by decide +kernel
theorem dX1_acceptsBehindPart_61 : decode cX1_acceptsBehindPart 61 = .ok (.putfield 35, 3) := by decide +kernel
theorem dX1_acceptsBehindPart_64 : decode cX1_acceptsBehindPart 64 = .ok (.iconst 1, 1) := by decide +kernel
theorem dX1_acceptsBehindPart_65 : decode cX1_acceptsBehindPart 65 = .ok (.ireturn, 1) := by decide +kernel
set_option maxRecDepth 20000 in
theorem ggX1_acceptsBehindOne_X1_join : GoodIn wsX1_acceptsBehindOne wsX1_join := goodIn_r _ [8, 1, 9, 10, 7, 11, 12, 13, 14, 15, 16, 17, 18, 19, 20, 21, 22, 23, 24, 25, 26, 27, 28, 33, 34, 35, 36, 37, 38, 39, 40, 41, 42, 43, 44, 45, 46, 47, 48, 49] (by decide +kernel) (by decide +kernel)
set_option maxRecDepth 20000 in
theorem gX1_acceptsBehindOne_X1_join : GoodIn wsX1_acceptsBehindOne (wsV RX1 171 RX1 yX1_join wsX1_join) := goodIn_app (goodIn_of _ (by decide +kernel)) ggX1_acceptsBehindOne_X1_join
set_option maxRecDepth 20000 in
theorem ggX1_acceptsBehindOne_X1_strength : GoodIn wsX1_acceptsBehindOne wsX1_strength := goodIn_r _ [11] (by decide +kernel) (by decide +kernel)
set_option maxRecDepth 20000 in
theorem gX1_acceptsBehindOne_X1_strength : GoodIn wsX1_acceptsBehindOne (va_wsS RX1 174 yX1_strength wsX1_strength) := goodIn_app (goodIn_of _ (by decide +kernel)) ggX1_acceptsBehindOne_X1_strength
set_option maxRecDepth 20000 in
theorem ggX1_acceptsBehindOne_X1_emitDownTo : GoodIn wsX1_acceptsBehindOne wsX1_emitDownTo := goodIn_r _ [15, 16, 17, 18, 9, 10, 7, 11, 19, 20, 21, 22, 23, 24, 33, 34, 35, 36, 37, 38, 39, 40, 41, 42, 43, 44, 45, 46, 47, 48, 49] (by decide +kernel) (by decide +kernel)
set_option maxRecDepth 20000 in
theorem gX1_acceptsBehindOne_X1_emitDownTo : GoodIn wsX1_acceptsBehindOne (wsV RX1 177 RX1 yX1_emitDownTo wsX1_emitDownTo) := goodIn_app (goodIn_of _ (by decide +kernel)) ggX1_acceptsBehindOne_X1_emitDownTo
set_option maxRecDepth 20000 in
theorem ggX1_acceptsBehindOne_X1_dropOpen : GoodIn wsX1_acceptsBehindOne wsX1_dropOpen := goodIn_r _ [32, 16, 3, 18, 33, 34, 35, 36, 37, 38, 39, 40, 41, 42, 43, 44, 45, 46, 47, 48, 49] (by decide +kernel) (by decide +kernel)
set_option maxRecDepth 20000 in
theorem gX1_acceptsBehindOne_X1_dropOpen : GoodIn wsX1_acceptsBehindOne (wsV RX1 180 RX1 yX1_dropOpen wsX1_dropOpen) := goodIn_app (goodIn_of _ (by decide +kernel)) ggX1_acceptsBehindOne_X1_dropOpen
theorem dX1_acceptsBehindOne_0 : decode cX1_acceptsBehindOne 0 = .ok (.aload_n 0, 1) := by decide +kernel
theorem dX1_acceptsBehindOne_1 : decode cX1_acceptsBehindOne 1 = .ok (.getfield 60, 3) := by decide +kernel
theorem dX1_acceptsBehindOne_4 : decode cX1_acceptsBehindOne 4 = .ok (.bipush 8, 2) := by decide +kernel
theorem dX1_acceptsBehindOne_6 : decode cX1_acceptsBehindOne 6 = .ok (.if_icmp .eq 12, 3) := by decide +kernel
theorem dX1_acceptsBehindOne_9 : decode cX1_acceptsBehindOne 9 = .ok (.aload_n 0, 1) := by decide +kernel
theorem dX1_acceptsBehindOne_10 : decode cX1_acceptsBehindOne 10 = .ok (.getfield 60, 3) := by decide +kernel
theorem dX1_acceptsBehindOne_13 : decode cX1_acceptsBehindOne 13 = .ok (.bipush 9, 2) := by decide +kernel
theorem dX1_acceptsBehindOne_15 : decode cX1_acceptsBehindOne 15 = .ok (.if_icmp .ne 15, 3) := by decide +kernel
theorem dX1_acceptsBehindOne_18 : decode cX1_acceptsBehindOne 18 = .ok (.aload_n 0, 1) := by decide +kernel
theorem dX1_acceptsBehindOne_19 : decode cX1_acceptsBehindOne 19 = .ok (.invokevirtual 171, 3) := by decide +kernel
theorem dX1_acceptsBehindOne_22 : decode cX1_acceptsBehindOne 22 = .ok (.aload_n 0, 1) := by decide +kernel
theorem dX1_acceptsBehindOne_23 : decode cX1_acceptsBehindOne 23 = .ok (.iconst 4, 1) := by decide +kernel
theorem dX1_acceptsBehindOne_24 : decode cX1_acceptsBehindOne 24 = .ok (.putfield 35, 3) := by decide +kernel
theorem dX1_acceptsBehindOne_27 : decode cX1_acceptsBehindOne 27 = .ok (.goto 76, 3) := by decide +kernel
theorem dX1_acceptsBehindOne_30 : decode cX1_acceptsBehindOne 30 = .ok (.aload_n 0, 1) := by decide +kernel
theorem dX1_acceptsBehindOne_31 : decode cX1_acceptsBehindOne 31 = .ok (.getfield 60, 3) := by decide +kernel
theorem dX1_acceptsBehindOne_34 : decode cX1_acceptsBehindOne 34 = .ok (.bipush 41, 2) := by decide +kernel
theorem dX1_acceptsBehindOne_36 : decode cX1_acceptsBehindOne 36 = .ok (.if_icmp .ne 32, 3) := by decide +kernel
theorem dX1_acceptsBehindOne_39 : decode cX1_acceptsBehindOne 39 = .ok (.aload_n 0, 1) := by decide +kernel
theorem dX1_acceptsBehindOne_40 : decode cX1_acceptsBehindOne 40 = .ok (.getfield 42, 3) := by decide +kernel
theorem dX1_acceptsBehindOne_43 : decode cX1_acceptsBehindOne 43 = .ok (.ifCond .le 25, 3) := by decide +kernel
theorem dX1_acceptsBehindOne_46 : decode cX1_acceptsBehindOne 46 = .ok (.aload_n 0, 1) := by decide +kernel
theorem dX1_acceptsBehindOne_47 : decode cX1_acceptsBehindOne 47 = .ok (.bipush 9, 2) := by decide +kernel
theorem dX1_acceptsBehindOne_49 : decode cX1_acceptsBehindOne 49 = .ok (.invokestatic 174, 3) := by decide +kernel
theorem dX1_acceptsBehindOne_52 : decode cX1_acceptsBehindOne 52 = .ok (.invokevirtual 177, 3) := by decide +kernel
theorem dX1_acceptsBehindOne_55 : decode cX1_acceptsBehindOne 55 = .ok (.aload_n 0, 1) := by decide +kernel
theorem dX1_acceptsBehindOne_56 : decode cX1_acceptsBehindOne 56 = .ok (.invokevirtual 180, 3) := by decide +kernel
theorem dX1_acceptsBehindOne_59 : decode cX1_acceptsBehindOne 59 = .ok (.aload_n 0, 1) := by decide +kernel
theorem dX1_acceptsBehindOne_60 : decode cX1_acceptsBehindOne 60 = .ok (.bipush 7, 2) := by decide +kernel
theorem dX1_acceptsBehindOne_62 : decode cX1_acceptsBehindOne 62 = .ok (.putfield 35, 3) := by decide +kernel
theorem dX1_acceptsBehindOne_65 : decode cX1_acceptsBehindOne 65 = .ok (.goto 38, 3) := by decide +kernel
theorem dX1_acceptsBehindOne_68 : decode cX1_acceptsBehindOne 68 = .ok (.aload_n 0, 1) := by decide +kernel
theorem dX1_acceptsBehindOne_69 : decode cX1_acceptsBehindOne 69 = .ok (.getfield 60, 3) := by decide +kernel
theorem dX1_acceptsBehindOne_72 : decode cX1_acceptsBehindOne 72 = .ok (.bipush 7, 2) := by decide +kernel
theorem dX1_acceptsBehindOne_74 : decode cX1_acceptsBehindOne 74 = .ok (.if_icmp .ne 27, 3) := by decide +kernel
theorem dX1_acceptsBehindOne_77 : decode cX1_acceptsBehindOne 77 = .ok (.aload_n 0, 1) := by decide +kernel
theorem dX1_acceptsBehindOne_78 : decode cX1_acceptsBehindOne 78 = .ok (.getfield 42, 3) := by decide +kernel
theorem dX1_acceptsBehindOne_81 : decode cX1_acceptsBehindOne 81 = .ok (.ifCond .ne 20, 3) := by decide +kernel
theorem dX1_acceptsBehindOne_84 : decode cX1_acceptsBehindOne 84 = .ok (.aload_n 0, 1) := by decide +kernel
theorem dX1_acceptsBehindOne_85 : decode cX1_acceptsBehindOne 85 = .ok (.bipush 9, 2) := by decide +kernel
theorem dX1_acceptsBehindOne_87 : decode cX1_acceptsBehindOne 87 = .ok (.invokestatic 174, 3) := by decide +kernel
theorem dX1_acceptsBehindOne_90 : decode cX1_acceptsBehindOne 90 = .ok (.invokevirtual 177, 3) := by decide +kernel
theorem dX1_acceptsBehindOne_93 : decode cX1_acceptsBehindOne 93 = .ok (.aload_n 0, 1) := by decide +kernel
theorem dX1_acceptsBehindOne_94 : decode cX1_acceptsBehindOne 94 = .ok (.iconst 1, 1) := by decide +kernel
theorem dX1_acceptsBehindOne_95 : decode cX1_acceptsBehindOne 95 = .ok (.putfield 35, 3) := by decide +kernel
theorem dX1_acceptsBehindOne_98 : decode cX1_acceptsBehindOne 98 = .ok (.goto 5, 3) := by decide +kernel
theorem dX1_acceptsBehindOne_101 : decode cX1_acceptsBehindOne 101 = .ok (.iconst 0, 1) := by decide +kernel
theorem dX1_acceptsBehindOne_102 : decode cX1_acceptsBehindOne 102 = .ok (.ireturn, 1) := by decide +kernel
theorem dX1_acceptsBehindOne_103 : decode cX1_acceptsBehindOne 103 = .ok (.iconst 1, 1) := by decide +kernel
theorem dX1_acceptsBehindOne_104 : decode cX1_acceptsBehindOne 104 = .ok (.ireturn, 1) := by decide +kernel
set_option maxRecDepth 20000 in
theorem ggX1_join_X1_strength : GoodIn wsX1_join wsX1_strength := goodIn_r _ [5] (by decide +kernel) (by decide +kernel)
set_option maxRecDepth 20000 in
theorem gX1_join_X1_strength : GoodIn wsX1_join (va_wsS RX1 174 yX1_strength wsX1_strength) := goodIn_app (goodIn_of _ (by decide +kernel)) ggX1_join_X1_strength
set_option maxRecDepth 20000 in
theorem ggX1_join_X1_emitDownTo : GoodIn wsX1_join wsX1_emitDownTo := goodIn_r _ [9, 10, 11, 12, 2, 3, 4, 5, 13, 14, 15, 16, 17, 18, 23, 24, 25, 26, 27, 28, 29, 30, 31, 32, 33, 34, 35, 36, 37, 38, 39] (by decide +kernel) (by decide +kernel)
set_option maxRecDepth 20000 in
theorem gX1_join_X1_emitDownTo : GoodIn wsX1_join (wsV RX1 177 RX1 yX1_emitDownTo wsX1_emitDownTo) := goodIn_app (goodIn_of _ (by decide +kernel)) ggX1_join_X1_emitDownTo
set_option maxRecDepth 20000 in
theorem ggX1_join_X1_push : GoodIn wsX1_join wsX1_push := goodIn_r _ [22, 10, 11, 23, 24, 25, 26, 27, 28, 29, 30, 31, 32, 33, 34, 35, 36, 37, 38, 39] (by decide +kernel) (by decide +kernel)
set_option maxRecDepth 20000 in
theorem gX1_join_X1_push : GoodIn wsX1_join (wsV RX1 164 RX1 yX1_push wsX1_push) := goodIn_app (goodIn_of _ (by decide +kernel)) ggX1_join_X1_push
theorem dX1_join_0 : decode cX1_join 0 = .ok (.aload_n 0, 1) := by decide +kernel
theorem dX1_join_1 : decode cX1_join 1 = .ok (.aload_n 0, 1) := by decide +kernel
theorem dX1_join_2 : decode cX1_join 2 = .ok (.getfield 60, 3) := by decide +kernel
theorem dX1_join_5 : decode cX1_join 5 = .ok (.invokestatic 174, 3) := by decide +kernel
theorem dX1_join_8 : decode cX1_join 8 = .ok (.invokevirtual 177, 3) := by decide +kernel
theorem dX1_join_11 : decode cX1_join 11 = .ok (.aload_n 0, 1) := by decide +kernel
theorem dX1_join_12 : decode cX1_join 12 = .ok (.aload_n 0, 1) := by decide +kernel
theorem dX1_join_13 : decode cX1_join 13 = .ok (.getfield 60, 3) := by decide +kernel
theorem dX1_join_16 : decode cX1_join 16 = .ok (.invokevirtual 164, 3) := by decide +kernel
theorem dX1_join_19 : decode cX1_join 19 = .ok (.return_, 1) := by decide +kernel
theorem dX1_strength_0 : decode cX1_strength 0 = .ok (.iload_n 0, 1) := by decide +kernel
theorem dX1_strength_1 : decode cX1_strength 1 = .ok (.lookupswitch 96 #[(8, 85), (9, 83), (10, 87), (42, 93), (43, 91), (45, 91), (60, 89), (61, 89), (62, 89)], 83) := by decide +kernel
theorem dX1_strength_84 : decode cX1_strength 84 = .ok (.iconst 1, 1) := by decide +kernel
theorem dX1_strength_85 : decode cX1_strength 85 = .ok (.ireturn, 1) := by decide +kernel
theorem dX1_strength_86 : decode cX1_strength 86 = .ok (.iconst 2, 1) := by decide +kernel
theorem dX1_strength_87 : decode cX1_strength 87 = .ok (.ireturn, 1) := by decide +kernel
theorem dX1_strength_88 : decode cX1_strength 88 = .ok (.iconst 3, 1) := by decide +kernel
theorem dX1_strength_89 : decode cX1_strength 89 = .ok (.ireturn, 1) := by decide +kernel
theorem dX1_strength_90 : decode cX1_strength 90 = .ok (.iconst 4, 1) := by decide +kernel
theorem dX1_strength_91 : decode cX1_strength 91 = .ok (.ireturn, 1) := by decide +kernel
theorem dX1_strength_92 : decode cX1_strength 92 = .ok (.iconst 5, 1) := by decide +kernel
theorem dX1_strength_93 : decode cX1_strength 93 = .ok (.ireturn, 1) := by decide +kernel
theorem dX1_strength_94 : decode cX1_strength 94 = .ok (.bipush 6, 2) := by decide +kernel
theorem dX1_strength_96 : decode cX1_strength 96 = .ok (.ireturn, 1) := by decide +kernel
theorem dX1_strength_97 : decode cX1_strength 97 = .ok (.iconst 0, 1) := by decide +kernel
theorem dX1_strength_98 : decode cX1_strength 98 = .ok (.ireturn, 1) := by decide +kernel
set_option maxRecDepth 20000 in
theorem ggX1_emitDownTo_X1_strength : GoodIn wsX1_emitDownTo wsX1_strength := goodIn_r _ [7] (by decide +kernel) (by decide +kernel)
set_option maxRecDepth 20000 in
theorem gX1_emitDownTo_X1_strength : GoodIn wsX1_emitDownTo (va_wsS RX1 174 yX1_strength wsX1_strength) := goodIn_app (goodIn_of _ (by decide +kernel)) ggX1_emitDownTo_X1_strength
set_option maxRecDepth 20000 in
theorem ggX1_emitDownTo_X1_emit : GoodIn wsX1_emitDownTo wsX1_emit := goodIn_r _ [11, 12, 13, 14, 15, 16, 17, 18, 19, 20, 21, 22, 23, 24, 25, 26, 27, 28, 29, 30] (by decide +kernel) (by decide +kernel)
set_option maxRecDepth 20000 in
theorem gX1_emitDownTo_X1_emit : GoodIn wsX1_emitDownTo (wsV RX1 168 RX1 yX1_emit wsX1_emit) := goodIn_app (goodIn_of _ (by decide +kernel)) ggX1_emitDownTo_X1_emit
theorem dX1_emitDownTo_0 : decode cX1_emitDownTo 0 = .ok (.aload_n 0, 1) := by decide +kernel
theorem dX1_emitDownTo_1 : decode cX1_emitDownTo 1 = .ok (.getfield 48, 3) := by decide +kernel
theorem dX1_emitDownTo_4 : decode cX1_emitDownTo 4 = .ok (.ifCond .le 72, 3) := by decide +kernel
theorem dX1_emitDownTo_7 : decode cX1_emitDownTo 7 = .ok (.aload_n 0, 1) := by decide +kernel
theorem dX1_emitDownTo_8 : decode cX1_emitDownTo 8 = .ok (.getfield 11, 3) := by decide +kernel
theorem dX1_emitDownTo_11 : decode cX1_emitDownTo 11 = .ok (.aload_n 0, 1) := by decide +kernel
theorem dX1_emitDownTo_12 : decode cX1_emitDownTo 12 = .ok (.getfield 48, 3) := by decide +kernel
theorem dX1_emitDownTo_15 : decode cX1_emitDownTo 15 = .ok (.iconst 1, 1) := by decide +kernel
theorem dX1_emitDownTo_16 : decode cX1_emitDownTo 16 = .ok (.isub, 1) := by decide +kernel
theorem dX1_emitDownTo_17 : decode cX1_emitDownTo 17 = .ok (.iaload, 1) := by decide +kernel
theorem dX1_emitDownTo_18 : decode cX1_emitDownTo 18 = .ok (.invokestatic 174, 3) := by decide +kernel
theorem dX1_emitDownTo_21 : decode cX1_emitDownTo 21 = .ok (.iload_n 1, 1) := by decide +kernel
theorem dX1_emitDownTo_22 : decode cX1_emitDownTo 22 = .ok (.if_icmp .lt 54, 3) := by decide +kernel
theorem dX1_emitDownTo_25 : decode cX1_emitDownTo 25 = .ok (.aload_n 0, 1) := by decide +kernel
theorem dX1_emitDownTo_26 : decode cX1_emitDownTo 26 = .ok (.dup, 1) := by decide +kernel
theorem dX1_emitDownTo_27 : decode cX1_emitDownTo 27 = .ok (.getfield 48, 3) := by decide +kernel
theorem dX1_emitDownTo_30 : decode cX1_emitDownTo 30 = .ok (.iconst 1, 1) := by decide +kernel
theorem dX1_emitDownTo_31 : decode cX1_emitDownTo 31 = .ok (.isub, 1) := by decide +kernel
theorem dX1_emitDownTo_32 : decode cX1_emitDownTo 32 = .ok (.putfield 48, 3) := by decide +kernel
theorem dX1_emitDownTo_35 : decode cX1_emitDownTo 35 = .ok (.aload_n 0, 1) := by decide +kernel
theorem dX1_emitDownTo_36 : decode cX1_emitDownTo 36 = .ok (.aload_n 0, 1) := by decide +kernel
theorem dX1_emitDownTo_37 : decode cX1_emitDownTo 37 = .ok (.getfield 11, 3) := by decide +kernel
theorem dX1_emitDownTo_40 : decode cX1_emitDownTo 40 = .ok (.aload_n 0, 1) := by decide +kernel
theorem dX1_emitDownTo_41 : decode cX1_emitDownTo 41 = .ok (.getfield 48, 3) := by decide +kernel
theorem dX1_emitDownTo_44 : decode cX1_emitDownTo 44 = .ok (.iaload, 1) := by decide +kernel
theorem dX1_emitDownTo_45 : decode cX1_emitDownTo 45 = .ok (.ineg, 1) := by decide +kernel
theorem dX1_emitDownTo_46 : decode cX1_emitDownTo 46 = .ok (.invokevirtual 168, 3) := by decide +kernel
theorem dX1_emitDownTo_49 : decode cX1_emitDownTo 49 = .ok (.aload_n 0, 1) := by decide +kernel
theorem dX1_emitDownTo_50 : decode cX1_emitDownTo 50 = .ok (.getfield 11, 3) := by decide +kernel
theorem dX1_emitDownTo_53 : decode cX1_emitDownTo 53 = .ok (.aload_n 0, 1) := by decide +kernel
theorem dX1_emitDownTo_54 : decode cX1_emitDownTo 54 = .ok (.getfield 48, 3) := by decide +kernel
theorem dX1_emitDownTo_57 : decode cX1_emitDownTo 57 = .ok (.iaload, 1) := by decide +kernel
theorem dX1_emitDownTo_58 : decode cX1_emitDownTo 58 = .ok (.bipush 10, 2) := by decide +kernel
theorem dX1_emitDownTo_60 : decode cX1_emitDownTo 60 = .ok (.if_icmp .ne (-60), 3) := by decide +kernel
theorem dX1_emitDownTo_63 : decode cX1_emitDownTo 63 = .ok (.aload_n 0, 1) := by decide +kernel
theorem dX1_emitDownTo_64 : decode cX1_emitDownTo 64 = .ok (.dup, 1) := by decide +kernel
theorem dX1_emitDownTo_65 : decode cX1_emitDownTo 65 = .ok (.getfield 45, 3) := by decide +kernel
theorem dX1_emitDownTo_68 : decode cX1_emitDownTo 68 = .ok (.iconst 1, 1) := by decide +kernel
theorem dX1_emitDownTo_69 : decode cX1_emitDownTo 69 = .ok (.isub, 1) := by decide +kernel
theorem dX1_emitDownTo_70 : decode cX1_emitDownTo 70 = .ok (.putfield 45, 3) := by decide +kernel
theorem dX1_emitDownTo_73 : decode cX1_emitDownTo 73 = .ok (.goto (-73), 3) := by decide +kernel
theorem dX1_emitDownTo_76 : decode cX1_emitDownTo 76 = .ok (.return_, 1) := by decide +kernel
theorem dX1_dropOpen_0 : decode cX1_dropOpen 0 = .ok (.aload_n 0, 1) := by decide +kernel
theorem dX1_dropOpen_1 : decode cX1_dropOpen 1 = .ok (.getfield 48, 3) := by decide +kernel
theorem dX1_dropOpen_4 : decode cX1_dropOpen 4 = .ok (.ifCond .le 33, 3) := by decide +kernel
theorem dX1_dropOpen_7 : decode cX1_dropOpen 7 = .ok (.aload_n 0, 1) := by decide +kernel
theorem dX1_dropOpen_8 : decode cX1_dropOpen 8 = .ok (.dup, 1) := by decide +kernel
theorem dX1_dropOpen_9 : decode cX1_dropOpen 9 = .ok (.getfield 48, 3) := by decide +kernel
theorem dX1_dropOpen_12 : decode cX1_dropOpen 12 = .ok (.iconst 1, 1) := by decide +kernel
theorem dX1_dropOpen_13 : decode cX1_dropOpen 13 = .ok (.isub, 1) := by decide +kernel
theorem dX1_dropOpen_14 : decode cX1_dropOpen 14 = .ok (.putfield 48, 3) := by decide +kernel
theorem dX1_dropOpen_17 : decode cX1_dropOpen 17 = .ok (.aload_n 0, 1) := by decide +kernel
theorem dX1_dropOpen_18 : decode cX1_dropOpen 18 = .ok (.dup, 1) := by decide +kernel
theorem dX1_dropOpen_19 : decode cX1_dropOpen 19 = .ok (.getfield 42, 3) := by decide +kernel
theorem dX1_dropOpen_22 : decode cX1_dropOpen 22 = .ok (.iconst 1, 1) := by decide +kernel
theorem dX1_dropOpen_23 : decode cX1_dropOpen 23 = .ok (.isub, 1) := by decide +kernel
theorem dX1_dropOpen_24 : decode cX1_dropOpen 24 = .ok (.putfield 42, 3) := by decide +kernel
theorem dX1_dropOpen_27 : decode cX1_dropOpen 27 = .ok (.aload_n 0, 1) := by decide +kernel
theorem dX1_dropOpen_28 : decode cX1_dropOpen 28 = .ok (.dup, 1) := by decide +kernel
theorem dX1_dropOpen_29 : decode cX1_dropOpen 29 = .ok (.getfield 45, 3) := by decide +kernel
theorem dX1_dropOpen_32 : decode cX1_dropOpen 32 = .ok (.iconst 1, 1) := by decide +kernel
theorem dX1_dropOpen_33 : decode cX1_dropOpen 33 = .ok (.isub, 1) := by decide +kernel
theorem dX1_dropOpen_34 : decode cX1_dropOpen 34 = .ok (.putfield 45, 3) := by decide +kernel
theorem dX1_dropOpen_37 : decode cX1_dropOpen 37 = .ok (.return_, 1) := by decide +kernel
theorem dX1_push_0 : decode cX1_push 0 = .ok (.aload_n 0, 1) := by decide +kernel
theorem dX1_push_1 : decode cX1_push 1 = .ok (.getfield 48, 3) := by decide +kernel
theorem dX1_push_4 : decode cX1_push 4 = .ok (.bipush 64, 2) := by decide +kernel
theorem dX1_push_6 : decode cX1_push 6 = .ok (.if_icmp .ge 23, 3) := by decide +kernel
theorem dX1_push_9 : decode cX1_push 9 = .ok (.aload_n 0, 1) := by decide +kernel
theorem dX1_push_10 : decode cX1_push 10 = .ok (.getfield 11, 3) := by decide +kernel
theorem dX1_push_13 : decode cX1_push 13 = .ok (.aload_n 0, 1) := by decide +kernel
theorem dX1_push_14 : decode cX1_push 14 = .ok (.getfield 48, 3) := by decide +kernel
theorem dX1_push_17 : decode cX1_push 17 = .ok (.iload_n 1, 1) := by decide +kernel
theorem dX1_push_18 : decode cX1_push 18 = .ok (.iastore, 1) := by decide +kernel
theorem dX1_push_19 : decode cX1_push 19 = .ok (.aload_n 0, 1) := by decide +kernel
theorem dX1_push_20 : decode cX1_push 20 = .ok (.dup, 1) := by decide +kernel
theorem dX1_push_21 : decode cX1_push 21 = .ok (.getfield 48, 3) := by decide +kernel
theorem dX1_push_24 : decode cX1_push 24 = .ok (.iconst 1, 1) := by decide +kernel
theorem dX1_push_25 : decode cX1_push 25 = .ok (.iadd, 1) := by decide +kernel
theorem dX1_push_26 : decode cX1_push 26 = .ok (.putfield 48, 3) := by decide +kernel
theorem dX1_push_29 : decode cX1_push 29 = .ok (.return_, 1) := by decide +kernel
theorem dX1_emit_0 : decode cX1_emit 0 = .ok (.aload_n 0, 1) := by decide +kernel
theorem dX1_emit_1 : decode cX1_emit 1 = .ok (.getfield 54, 3) := by decide +kernel
theorem dX1_emit_4 : decode cX1_emit 4 = .ok (.sipush 800, 3) := by decide +kernel
theorem dX1_emit_7 : decode cX1_emit 7 = .ok (.if_icmp .ge 23, 3) := by decide +kernel
theorem dX1_emit_10 : decode cX1_emit 10 = .ok (.aload_n 0, 1) := by decide +kernel
theorem dX1_emit_11 : decode cX1_emit 11 = .ok (.getfield 24, 3) := by decide +kernel
theorem dX1_emit_14 : decode cX1_emit 14 = .ok (.aload_n 0, 1) := by decide +kernel
theorem dX1_emit_15 : decode cX1_emit 15 = .ok (.getfield 54, 3) := by decide +kernel
theorem dX1_emit_18 : decode cX1_emit 18 = .ok (.iload_n 1, 1) := by decide +kernel
theorem dX1_emit_19 : decode cX1_emit 19 = .ok (.iastore, 1) := by decide +kernel
theorem dX1_emit_20 : decode cX1_emit 20 = .ok (.aload_n 0, 1) := by decide +kernel
theorem dX1_emit_21 : decode cX1_emit 21 = .ok (.dup, 1) := by decide +kernel
theorem dX1_emit_22 : decode cX1_emit 22 = .ok (.getfield 54, 3) := by decide +kernel
theorem dX1_emit_25 : decode cX1_emit 25 = .ok (.iconst 1, 1) := by decide +kernel
theorem dX1_emit_26 : decode cX1_emit 26 = .ok (.iadd, 1) := by decide +kernel
theorem dX1_emit_27 : decode cX1_emit 27 = .ok (.putfield 54, 3) := by decide +kernel
theorem dX1_emit_30 : decode cX1_emit 30 = .ok (.return_, 1) := by decide +kernel
theorem dX2_init_0 : decode cX2_init 0 = .ok (.aload_n 0, 1) := by decide +kernel
theorem dX2_init_1 : decode cX2_init 1 = .ok (.invokespecial 3, 3) := by decide +kernel
theorem dX2_init_4 : decode cX2_init 4 = .ok (.aload_n 0, 1) := by decide +kernel
theorem dX2_init_5 : decode cX2_init 5 = .ok (.iload_n 1, 1) := by decide +kernel
theorem dX2_init_6 : decode cX2_init 6 = .ok (.iconst 1, 1) := by decide +kernel
theorem dX2_init_7 : decode cX2_init 7 = .ok (.invokestatic 9, 3) := by decide +kernel
theorem dX2_init_10 : decode cX2_init 10 = .ok (.putfield 15, 3) := by decide +kernel
theorem dX2_init_13 : decode cX2_init 13 = .ok (.aload_n 0, 1) := by decide +kernel
theorem dX2_init_14 : decode cX2_init 14 = .ok (.iload_n 2, 1) := by decide +kernel
theorem dX2_init_15 : decode cX2_init 15 = .ok (.putfield 21, 3) := by decide +kernel
theorem dX2_init_18 : decode cX2_init 18 = .ok (.aload_n 0, 1) := by decide +kernel
theorem dX2_init_19 : decode cX2_init 19 = .ok (.aload_n 0, 1) := by decide +kernel
theorem dX2_init_20 : decode cX2_init 20 = .ok (.getfield 15, 3) := by decide +kernel
theorem dX2_init_23 : decode cX2_init 23 = .ok (.bipush 16, 2) := by decide +kernel
theorem dX2_init_25 : decode cX2_init 25 = .ok (.imul, 1) := by decide +kernel
theorem dX2_init_26 : decode cX2_init 26 = .ok (.newarray .int, 2) := by decide +kernel
theorem dX2_init_28 : decode cX2_init 28 = .ok (.putfield 24, 3) := by decide +kernel
theorem dX2_init_31 : decode cX2_init 31 = .ok (.return_, 1) := by decide +kernel
theorem dX2_hasRoom_0 : decode cX2_hasRoom 0 = .ok (.aload_n 0, 1) := by decide +kernel
theorem dX2_hasRoom_1 : decode cX2_hasRoom 1 = .ok (.getfield 28, 3) := by decide +kernel
theorem dX2_hasRoom_4 : decode cX2_hasRoom 4 = .ok (.iload_n 1, 1) := by decide +kernel
theorem dX2_hasRoom_5 : decode cX2_hasRoom 5 = .ok (.iadd, 1) := by decide +kernel
theorem dX2_hasRoom_6 : decode cX2_hasRoom 6 = .ok (.aload_n 0, 1) := by decide +kernel
theorem dX2_hasRoom_7 : decode cX2_hasRoom 7 = .ok (.getfield 21, 3) := by decide +kernel
theorem dX2_hasRoom_10 : decode cX2_hasRoom 10 = .ok (.if_icmp .gt 7, 3) := by decide +kernel
theorem dX2_hasRoom_13 : decode cX2_hasRoom 13 = .ok (.iconst 1, 1) := by decide +kernel
theorem dX2_hasRoom_14 : decode cX2_hasRoom 14 = .ok (.goto 4, 3) := by decide +kernel
theorem dX2_hasRoom_17 : decode cX2_hasRoom 17 = .ok (.iconst 0, 1) := by decide +kernel
theorem dX2_hasRoom_18 : decode cX2_hasRoom 18 = .ok (.ireturn, 1) := by decide +kernel
theorem dX2_has_0 : decode cX2_has 0 = .ok (.iload_n 1, 1) := by decide +kernel
theorem dX2_has_1 : decode cX2_has 1 = .ok (.ifCond .lt 27, 3) := by decide +kernel
theorem dX2_has_4 : decode cX2_has 4 = .ok (.iload_n 1, 1) := by decide +kernel
theorem dX2_has_5 : decode cX2_has 5 = .ok (.aload_n 0, 1) := by decide +kernel
theorem dX2_has_6 : decode cX2_has 6 = .ok (.getfield 28, 3) := by decide +kernel
theorem dX2_has_9 : decode cX2_has 9 = .ok (.if_icmp .ge 19, 3) := by decide +kernel
theorem dX2_has_12 : decode cX2_has 12 = .ok (.iload_n 2, 1) := by decide +kernel
theorem dX2_has_13 : decode cX2_has 13 = .ok (.ifCond .lt 15, 3) := by decide +kernel
theorem dX2_has_16 : decode cX2_has 16 = .ok (.iload_n 2, 1) := by decide +kernel
theorem dX2_has_17 : decode cX2_has 17 = .ok (.aload_n 0, 1) := by decide +kernel
theorem dX2_has_18 : decode cX2_has 18 = .ok (.getfield 15, 3) := by decide +kernel
theorem dX2_has_21 : decode cX2_has 21 = .ok (.if_icmp .ge 7, 3) := by decide +kernel
theorem dX2_has_24 : decode cX2_has 24 = .ok (.iconst 1, 1) := by decide +kernel
theorem dX2_has_25 : decode cX2_has 25 = .ok (.goto 4, 3) := by decide +kernel
theorem dX2_has_28 : decode cX2_has 28 = .ok (.iconst 0, 1) := by decide +kernel
theorem dX2_has_29 : decode cX2_has 29 = .ok (.ireturn, 1) := by decide +kernel
set_option maxRecDepth 20000 in
theorem ggX2_add_X2_hasRoom : GoodIn wsX2_add wsX2_hasRoom := goodIn_r _ [8, 1, 9, 29, 30, 31, 32] (by decide +kernel) (by decide +kernel)
set_option maxRecDepth 20000 in
theorem gX2_add_X2_hasRoom : GoodIn wsX2_add (wsV RX2 31 RX2 yX2_hasRoom wsX2_hasRoom) := goodIn_app (goodIn_of _ (by decide +kernel)) ggX2_add_X2_hasRoom
set_option maxRecDepth 20000 in
theorem ggX2_add_J7_copyOf_59c91 : GoodIn wsX2_add wsJ7_copyOf_59c91 := goodIn_r _ [13, 14, 15, 16, 17, 18, 19, 20, 21, 22, 23, 24, 25, 26, 27, 28] (by decide +kernel) (by decide +kernel)
set_option maxRecDepth 20000 in
theorem gX2_add_J7_copyOf_59c91 : GoodIn wsX2_add (va_wsS RX2 35 yJ7_copyOf_59c91 wsJ7_copyOf_59c91) := goodIn_app (goodIn_of _ (by decide +kernel)) ggX2_add_J7_copyOf_59c91
theorem dX2_add_0 : decode cX2_add 0 = .ok (.aload_n 0, 1) := by decide +kernel
theorem dX2_add_1 : decode cX2_add 1 = .ok (.iconst 1, 1) := by decide +kernel
theorem dX2_add_2 : decode cX2_add 2 = .ok (.invokevirtual 31, 3) := by decide +kernel
theorem dX2_add_5 : decode cX2_add 5 = .ok (.ifCond .ne 5, 3) := by decide +kernel
theorem dX2_add_8 : decode cX2_add 8 = .ok (.iconst (-1), 1) := by decide +kernel
theorem dX2_add_9 : decode cX2_add 9 = .ok (.ireturn, 1) := by decide +kernel
theorem dX2_add_10 : decode cX2_add 10 = .ok (.aload_n 0, 1) := by decide +kernel
theorem dX2_add_11 : decode cX2_add 11 = .ok (.getfield 28, 3) := by decide +kernel
theorem dX2_add_14 : decode cX2_add 14 = .ok (.iconst 1, 1) := by decide +kernel
theorem dX2_add_15 : decode cX2_add 15 = .ok (.iadd, 1) := by decide +kernel
theorem dX2_add_16 : decode cX2_add 16 = .ok (.aload_n 0, 1) := by decide +kernel
theorem dX2_add_17 : decode cX2_add 17 = .ok (.getfield 15, 3) := by decide +kernel
theorem dX2_add_20 : decode cX2_add 20 = .ok (.imul, 1) := by decide +kernel
theorem dX2_add_21 : decode cX2_add 21 = .ok (.aload_n 0, 1) := by decide +kernel
theorem dX2_add_22 : decode cX2_add 22 = .ok (.getfield 24, 3) := by decide +kernel
theorem dX2_add_25 : decode cX2_add 25 = .ok (.arraylength, 1) := by decide +kernel
theorem dX2_add_26 : decode cX2_add 26 = .ok (.if_icmp .le 21, 3) := by decide +kernel
theorem dX2_add_29 : decode cX2_add 29 = .ok (.aload_n 0, 1) := by decide +kernel
theorem dX2_add_30 : decode cX2_add 30 = .ok (.aload_n 0, 1) := by decide +kernel
theorem dX2_add_31 : decode cX2_add 31 = .ok (.getfield 24, 3) := by decide +kernel
theorem dX2_add_34 : decode cX2_add 34 = .ok (.aload_n 0, 1) := by decide +kernel
theorem dX2_add_35 : decode cX2_add 35 = .ok (.getfield 24, 3) := by decide +kernel
theorem dX2_add_38 : decode cX2_add 38 = .ok (.arraylength, 1) := by decide +kernel
theorem dX2_add_39 : decode cX2_add 39 = .ok (.iconst 2, 1) := by decide +kernel
theorem dX2_add_40 : decode cX2_add 40 = .ok (.imul, 1) := by decide +kernel
theorem dX2_add_41 : decode cX2_add 41 = .ok (.invokestatic 35, 3) := by decide +kernel
theorem dX2_add_44 : decode cX2_add 44 = .ok (.putfield 24, 3) := by decide +kernel
theorem dX2_add_47 : decode cX2_add 47 = .ok (.aload_n 0, 1) := by decide +kernel
theorem dX2_add_48 : decode cX2_add 48 = .ok (.dup, 1) := by decide +kernel
theorem dX2_add_49 : decode cX2_add 49 = .ok (.getfield 28, 3) := by decide +kernel
theorem dX2_add_52 : decode cX2_add 52 = .ok (.dup_x1, 1) := by decide +kernel
theorem dX2_add_53 : decode cX2_add 53 = .ok (.iconst 1, 1) := by decide +kernel
theorem dX2_add_54 : decode cX2_add 54 = .ok (.iadd, 1) := by decide +kernel
theorem dX2_add_55 : decode cX2_add 55 = .ok (.putfield 28, 3) := by decide +kernel
theorem dX2_add_58 : decode cX2_add 58 = .ok (.ireturn, 1) := by decide +kernel
set_option maxRecDepth 20000 in
theorem ggX2_get_X2_has : GoodIn wsX2_get wsX2_has := goodIn_r _ [7, 8, 2, 9, 10, 11, 12] (by decide +kernel) (by decide +kernel)
set_option maxRecDepth 20000 in
theorem gX2_get_X2_has : GoodIn wsX2_get (wsV RX2 41 RX2 yX2_has wsX2_has) := goodIn_app (goodIn_of _ (by decide +kernel)) ggX2_get_X2_has
theorem dX2_get_0 : decode cX2_get 0 = .ok (.aload_n 0, 1) := by decide +kernel
theorem dX2_get_1 : decode cX2_get 1 = .ok (.iload_n 1, 1) := by decide +kernel
theorem dX2_get_2 : decode cX2_get 2 = .ok (.iload_n 2, 1) := by decide +kernel
theorem dX2_get_3 : decode cX2_get 3 = .ok (.invokevirtual 41, 3) := by decide +kernel
theorem dX2_get_6 : decode cX2_get 6 = .ok (.ifCond .eq 19, 3) := by decide +kernel
theorem dX2_get_9 : decode cX2_get 9 = .ok (.aload_n 0, 1) := by decide +kernel
theorem dX2_get_10 : decode cX2_get 10 = .ok (.getfield 24, 3) := by decide +kernel
theorem dX2_get_13 : decode cX2_get 13 = .ok (.iload_n 1, 1) := by decide +kernel
theorem dX2_get_14 : decode cX2_get 14 = .ok (.aload_n 0, 1) := by decide +kernel
theorem dX2_get_15 : decode cX2_get 15 = .ok (.getfield 15, 3) := by decide +kernel
theorem dX2_get_18 : decode cX2_get 18 = .ok (.imul, 1) := by decide +kernel
theorem dX2_get_19 : decode cX2_get 19 = .ok (.iload_n 2, 1) := by decide +kernel
theorem dX2_get_20 : decode cX2_get 20 = .ok (.iadd, 1) := by decide +kernel
theorem dX2_get_21 : decode cX2_get 21 = .ok (.iaload, 1) := by decide +kernel
theorem dX2_get_22 : decode cX2_get 22 = .ok (.goto 4, 3) := by decide +kernel
theorem dX2_get_25 : decode cX2_get 25 = .ok (.iconst 0, 1) := by decide +kernel
theorem dX2_get_26 : decode cX2_get 26 = .ok (.ireturn, 1) := by decide +kernel
set_option maxRecDepth 20000 in
theorem ggX2_set_X2_has : GoodIn wsX2_set wsX2_has := goodIn_r _ [7, 8, 2, 9, 10, 11, 12] (by decide +kernel) (by decide +kernel)
set_option maxRecDepth 20000 in
theorem gX2_set_X2_has : GoodIn wsX2_set (wsV RX2 41 RX2 yX2_has wsX2_has) := goodIn_app (goodIn_of _ (by decide +kernel)) ggX2_set_X2_has
theorem dX2_set_0 : decode cX2_set 0 = .ok (.aload_n 0, 1) := by decide +kernel
theorem dX2_set_1 : decode cX2_set 1 = .ok (.iload_n 1, 1) := by decide +kernel
theorem dX2_set_2 : decode cX2_set 2 = .ok (.iload_n 2, 1) := by decide +kernel
theorem dX2_set_3 : decode cX2_set 3 = .ok (.invokevirtual 41, 3) := by decide +kernel
theorem dX2_set_6 : decode cX2_set 6 = .ok (.ifCond .eq 17, 3) := by decide +kernel
theorem dX2_set_9 : decode cX2_set 9 = .ok (.aload_n 0, 1) := by decide +kernel
theorem dX2_set_10 : decode cX2_set 10 = .ok (.getfield 24, 3) := by decide +kernel
theorem dX2_set_13 : decode cX2_set 13 = .ok (.iload_n 1, 1) := by decide +kernel
theorem dX2_set_14 : decode cX2_set 14 = .ok (.aload_n 0, 1) := by decide +kernel
theorem dX2_set_15 : decode cX2_set 15 = .ok (.getfield 15, 3) := by decide +kernel
theorem dX2_set_18 : decode cX2_set 18 = .ok (.imul, 1) := by decide +kernel
theorem dX2_set_19 : decode cX2_set 19 = .ok (.iload_n 2, 1) := by decide +kernel
theorem dX2_set_20 : decode cX2_set 20 = .ok (.iadd, 1) := by decide +kernel
theorem dX2_set_21 : decode cX2_set 21 = .ok (.iload_n 3, 1) := by decide +kernel
theorem dX2_set_22 : decode cX2_set 22 = .ok (.iastore, 1) := by decide +kernel
theorem dX2_set_23 : decode cX2_set 23 = .ok (.return_, 1) := by decide +kernel
set_option maxRecDepth 20000 in
theorem ggX2_total_X2_get : GoodIn wsX2_total wsX2_get := goodIn_r _ [6, 7, 8, 9, 10, 11, 5, 12, 1, 13, 14, 15, 16] (by decide +kernel) (by decide +kernel)
set_option maxRecDepth 20000 in
theorem gX2_total_X2_get : GoodIn wsX2_total (wsV RX2 45 RX2 yX2_get wsX2_get) := goodIn_app (goodIn_of _ (by decide +kernel)) ggX2_total_X2_get
theorem dX2_total_0 : decode cX2_total 0 = .ok (.lconst 0, 1) := by decide +kernel
theorem dX2_total_1 : decode cX2_total 1 = .ok (.lstore_n 2, 1) := by decide +kernel
theorem dX2_total_2 : decode cX2_total 2 = .ok (.iconst 0, 1) := by decide +kernel
theorem dX2_total_3 : decode cX2_total 3 = .ok (.istore 4, 2) := by decide +kernel
theorem dX2_total_5 : decode cX2_total 5 = .ok (.iload 4, 2) := by decide +kernel
theorem dX2_total_7 : decode cX2_total 7 = .ok (.aload_n 0, 1) := by decide +kernel
theorem dX2_total_8 : decode cX2_total 8 = .ok (.getfield 28, 3) := by decide +kernel
theorem dX2_total_11 : decode cX2_total 11 = .ok (.if_icmp .ge 20, 3) := by decide +kernel
theorem dX2_total_14 : decode cX2_total 14 = .ok (.lload_n 2, 1) := by decide +kernel
theorem dX2_total_15 : decode cX2_total 15 = .ok (.aload_n 0, 1) := by decide +kernel
theorem dX2_total_16 : decode cX2_total 16 = .ok (.iload 4, 2) := by decide +kernel
theorem dX2_total_18 : decode cX2_total 18 = .ok (.iload_n 1, 1) := by decide +kernel
theorem dX2_total_19 : decode cX2_total 19 = .ok (.invokevirtual 45, 3) := by decide +kernel
theorem dX2_total_22 : decode cX2_total 22 = .ok (.i2l, 1) := by decide +kernel
theorem dX2_total_23 : decode cX2_total 23 = .ok (.ladd, 1) := by decide +kernel
theorem dX2_total_24 : decode cX2_total 24 = .ok (.lstore_n 2, 1) := by decide +kernel
theorem dX2_total_25 : decode cX2_total 25 = .ok (.iinc 4 1, 3) := by decide +kernel
theorem dX2_total_28 : decode cX2_total 28 = .ok (.goto (-23), 3) := by decide +kernel
theorem dX2_total_31 : decode cX2_total 31 = .ok (.lload_n 2, 1) := by decide +kernel
theorem dX2_total_32 : decode cX2_total 32 = .ok (.lreturn, 1) := by decide +kernel
theorem dX3_init_0 : decode cX3_init 0 = .ok (.aload_n 0, 1) := by decide +kernel
theorem dX3_init_1 : decode cX3_init 1 = .ok (.invokespecial 3, 3) := by decide +kernel
theorem dX3_init_4 : decode cX3_init 4 = .ok (.aload_n 0, 1) := by decide +kernel
theorem dX3_init_5 : decode cX3_init 5 = .ok (.sipush 800, 3) := by decide +kernel
theorem dX3_init_8 : decode cX3_init 8 = .ok (.newarray .byte, 2) := by decide +kernel
theorem dX3_init_10 : decode cX3_init 10 = .ok (.putfield 9, 3) := by decide +kernel
theorem dX3_init_13 : decode cX3_init 13 = .ok (.return_, 1) := by decide +kernel
theorem dX3_hasRoom_0 : decode cX3_hasRoom 0 = .ok (.aload_n 0, 1) := by decide +kernel
theorem dX3_hasRoom_1 : decode cX3_hasRoom 1 = .ok (.getfield 15, 3) := by decide +kernel
theorem dX3_hasRoom_4 : decode cX3_hasRoom 4 = .ok (.iload_n 1, 1) := by decide +kernel
theorem dX3_hasRoom_5 : decode cX3_hasRoom 5 = .ok (.iadd, 1) := by decide +kernel
theorem dX3_hasRoom_6 : decode cX3_hasRoom 6 = .ok (.sipush 800, 3) := by decide +kernel
theorem dX3_hasRoom_9 : decode cX3_hasRoom 9 = .ok (.if_icmp .gt 7, 3) := by decide +kernel
theorem dX3_hasRoom_12 : decode cX3_hasRoom 12 = .ok (.iconst 1, 1) := by decide +kernel
theorem dX3_hasRoom_13 : decode cX3_hasRoom 13 = .ok (.goto 4, 3) := by decide +kernel
theorem dX3_hasRoom_16 : decode cX3_hasRoom 16 = .ok (.iconst 0, 1) := by decide +kernel
theorem dX3_hasRoom_17 : decode cX3_hasRoom 17 = .ok (.ireturn, 1) := by decide +kernel
set_option maxRecDepth 20000 in
theorem ggX3_addFour_X3_hasRoom : GoodIn wsX3_addFour wsX3_hasRoom := goodIn_r _ [7, 2, 8, 9] (by decide +kernel) (by decide +kernel)
set_option maxRecDepth 20000 in
theorem gX3_addFour_X3_hasRoom : GoodIn wsX3_addFour (wsV RX3 19 RX3 yX3_hasRoom wsX3_hasRoom) := goodIn_app (goodIn_of _ (by decide +kernel)) ggX3_addFour_X3_hasRoom
theorem dX3_addFour_0 : decode cX3_addFour 0 = .ok (.bipush 24, 2) := by decide +kernel
theorem dX3_addFour_2 : decode cX3_addFour 2 = .ok (.istore_n 2, 1) := by decide +kernel
theorem dX3_addFour_3 : decode cX3_addFour 3 = .ok (.iload_n 2, 1) := by decide +kernel
theorem dX3_addFour_4 : decode cX3_addFour 4 = .ok (.ifCond .lt 40, 3) := by decide +kernel
theorem dX3_addFour_7 : decode cX3_addFour 7 = .ok (.aload_n 0, 1) := by decide +kernel
theorem dX3_addFour_8 : decode cX3_addFour 8 = .ok (.iconst 1, 1) := by decide +kernel
theorem dX3_addFour_9 : decode cX3_addFour 9 = .ok (.invokevirtual 19, 3) := by decide +kernel
theorem dX3_addFour_12 : decode cX3_addFour 12 = .ok (.ifCond .eq 26, 3) := by decide +kernel
theorem dX3_addFour_15 : decode cX3_addFour 15 = .ok (.aload_n 0, 1) := by decide +kernel
theorem dX3_addFour_16 : decode cX3_addFour 16 = .ok (.getfield 9, 3) := by decide +kernel
theorem dX3_addFour_19 : decode cX3_addFour 19 = .ok (.aload_n 0, 1) := by decide +kernel
theorem dX3_addFour_20 : decode cX3_addFour 20 = .ok (.getfield 15, 3) := by decide +kernel
theorem dX3_addFour_23 : decode cX3_addFour 23 = .ok (.iload_n 1, 1) := by decide +kernel
theorem dX3_addFour_24 : decode cX3_addFour 24 = .ok (.iload_n 2, 1) := by decide +kernel
theorem dX3_addFour_25 : decode cX3_addFour 25 = .ok (.iushr, 1) := by decide +kernel
theorem dX3_addFour_26 : decode cX3_addFour 26 = .ok (.i2b, 1) := by decide +kernel
theorem dX3_addFour_27 : decode cX3_addFour 27 = .ok (.bastore, 1) := by decide +kernel
theorem dX3_addFour_28 : decode cX3_addFour 28 = .ok (.aload_n 0, 1) := by decide +kernel
theorem dX3_addFour_29 : decode cX3_addFour 29 = .ok (.dup, 1) := by decide +kernel
theorem dX3_addFour_30 : decode cX3_addFour 30 = .ok (.getfield 15, 3) := by decide +kernel
theorem dX3_addFour_33 : decode cX3_addFour 33 = .ok (.iconst 1, 1) := by decide +kernel
theorem dX3_addFour_34 : decode cX3_addFour 34 = .ok (.iadd, 1) := by decide +kernel
theorem dX3_addFour_35 : decode cX3_addFour 35 = .ok (.putfield 15, 3) := by decide +kernel
theorem dX3_addFour_38 : decode cX3_addFour 38 = .ok (.iinc 2 (-8), 3) := by decide +kernel
theorem dX3_addFour_41 : decode cX3_addFour 41 = .ok (.goto (-38), 3) := by decide +kernel
theorem dX3_addFour_44 : decode cX3_addFour 44 = .ok (.return_, 1) := by decide +kernel
theorem dX3_byteAt_0 : decode cX3_byteAt 0 = .ok (.iload_n 1, 1) := by decide +kernel
theorem dX3_byteAt_1 : decode cX3_byteAt 1 = .ok (.ifCond .lt 18, 3) := by decide +kernel
theorem dX3_byteAt_4 : decode cX3_byteAt 4 = .ok (.iload_n 1, 1) := by decide +kernel
theorem dX3_byteAt_5 : decode cX3_byteAt 5 = .ok (.aload_n 0, 1) := by decide +kernel
theorem dX3_byteAt_6 : decode cX3_byteAt 6 = .ok (.getfield 15, 3) := by decide +kernel
theorem dX3_byteAt_9 : decode cX3_byteAt 9 = .ok (.if_icmp .ge 10, 3) := by decide +kernel
theorem dX3_byteAt_12 : decode cX3_byteAt 12 = .ok (.iload_n 1, 1) := by decide +kernel
theorem dX3_byteAt_13 : decode cX3_byteAt 13 = .ok (.sipush 800, 3) := by decide +kernel
theorem dX3_byteAt_16 : decode cX3_byteAt 16 = .ok (.if_icmp .lt 7, 3) := by decide +kernel
theorem dX3_byteAt_19 : decode cX3_byteAt 19 = .ok (.iconst (-1), 1) := by decide +kernel
theorem dX3_byteAt_20 : decode cX3_byteAt 20 = .ok (.goto 13, 3) := by decide +kernel
theorem dX3_byteAt_23 : decode cX3_byteAt 23 = .ok (.aload_n 0, 1) := by decide +kernel
theorem dX3_byteAt_24 : decode cX3_byteAt 24 = .ok (.getfield 9, 3) := by decide +kernel
theorem dX3_byteAt_27 : decode cX3_byteAt 27 = .ok (.iload_n 1, 1) := by decide +kernel
theorem dX3_byteAt_28 : decode cX3_byteAt 28 = .ok (.baload, 1) := by decide +kernel
theorem dX3_byteAt_29 : decode cX3_byteAt 29 = .ok (.sipush 255, 3) := by decide +kernel
theorem dX3_byteAt_32 : decode cX3_byteAt 32 = .ok (.iand, 1) := by decide +kernel
theorem dX3_byteAt_33 : decode cX3_byteAt 33 = .ok (.ireturn, 1) := by decide +kernel
theorem dX4_init_0 : decode cX4_init 0 = .ok (.aload_n 0, 1) := by decide +kernel
theorem dX4_init_1 : decode cX4_init 1 = .ok (.invokespecial 3, 3) := by decide +kernel
theorem dX4_init_4 : decode cX4_init 4 = .ok (.aload_n 0, 1) := by decide +kernel
theorem dX4_init_5 : decode cX4_init 5 = .ok (.aload_n 1, 1) := by decide +kernel
theorem dX4_init_6 : decode cX4_init 6 = .ok (.putfield 9, 3) := by decide +kernel
theorem dX4_init_9 : decode cX4_init 9 = .ok (.aload_n 0, 1) := by decide +kernel
theorem dX4_init_10 : decode cX4_init 10 = .ok (.aload_n 2, 1) := by decide +kernel
theorem dX4_init_11 : decode cX4_init 11 = .ok (.putfield 15, 3) := by decide +kernel
theorem dX4_init_14 : decode cX4_init 14 = .ok (.aload_n 0, 1) := by decide +kernel
theorem dX4_init_15 : decode cX4_init 15 = .ok (.aload_n 3, 1) := by decide +kernel
theorem dX4_init_16 : decode cX4_init 16 = .ok (.putfield 18, 3) := by decide +kernel
theorem dX4_init_19 : decode cX4_init 19 = .ok (.aload_n 0, 1) := by decide +kernel
theorem dX4_init_20 : decode cX4_init 20 = .ok (.aload 4, 2) := by decide +kernel
theorem dX4_init_22 : decode cX4_init 22 = .ok (.putfield 21, 3) := by decide +kernel
theorem dX4_init_25 : decode cX4_init 25 = .ok (.return_, 1) := by decide +kernel
theorem dX4_actOf_0 : decode cX4_actOf 0 = .ok (.iload_n 1, 1) := by decide +kernel
theorem dX4_actOf_1 : decode cX4_actOf 1 = .ok (.ifCond .lt 12, 3) := by decide +kernel
theorem dX4_actOf_4 : decode cX4_actOf 4 = .ok (.iload_n 1, 1) := by decide +kernel
theorem dX4_actOf_5 : decode cX4_actOf 5 = .ok (.aload_n 0, 1) := by decide +kernel
theorem dX4_actOf_6 : decode cX4_actOf 6 = .ok (.getfield 9, 3) := by decide +kernel
theorem dX4_actOf_9 : decode cX4_actOf 9 = .ok (.arraylength, 1) := by decide +kernel
theorem dX4_actOf_10 : decode cX4_actOf 10 = .ok (.if_icmp .lt 7, 3) := by decide +kernel
theorem dX4_actOf_13 : decode cX4_actOf 13 = .ok (.iconst 2, 1) := by decide +kernel
theorem dX4_actOf_14 : decode cX4_actOf 14 = .ok (.goto 9, 3) := by decide +kernel
theorem dX4_actOf_17 : decode cX4_actOf 17 = .ok (.aload_n 0, 1) := by decide +kernel
theorem dX4_actOf_18 : decode cX4_actOf 18 = .ok (.getfield 9, 3) := by decide +kernel
theorem dX4_actOf_21 : decode cX4_actOf 21 = .ok (.iload_n 1, 1) := by decide +kernel
theorem dX4_actOf_22 : decode cX4_actOf 22 = .ok (.iaload, 1) := by decide +kernel
theorem dX4_actOf_23 : decode cX4_actOf 23 = .ok (.ireturn, 1) := by decide +kernel
theorem dX4_shareOf_0 : decode cX4_shareOf 0 = .ok (.iload_n 1, 1) := by decide +kernel
theorem dX4_shareOf_1 : decode cX4_shareOf 1 = .ok (.ifCond .lt 12, 3) := by decide +kernel
theorem dX4_shareOf_4 : decode cX4_shareOf 4 = .ok (.iload_n 1, 1) := by decide +kernel
theorem dX4_shareOf_5 : decode cX4_shareOf 5 = .ok (.aload_n 0, 1) := by decide +kernel
theorem dX4_shareOf_6 : decode cX4_shareOf 6 = .ok (.getfield 15, 3) := by decide +kernel
theorem dX4_shareOf_9 : decode cX4_shareOf 9 = .ok (.arraylength, 1) := by decide +kernel
theorem dX4_shareOf_10 : decode cX4_shareOf 10 = .ok (.if_icmp .lt 7, 3) := by decide +kernel
theorem dX4_shareOf_13 : decode cX4_shareOf 13 = .ok (.iconst 0, 1) := by decide +kernel
theorem dX4_shareOf_14 : decode cX4_shareOf 14 = .ok (.goto 9, 3) := by decide +kernel
theorem dX4_shareOf_17 : decode cX4_shareOf 17 = .ok (.aload_n 0, 1) := by decide +kernel
theorem dX4_shareOf_18 : decode cX4_shareOf 18 = .ok (.getfield 15, 3) := by decide +kernel
theorem dX4_shareOf_21 : decode cX4_shareOf 21 = .ok (.iload_n 1, 1) := by decide +kernel
theorem dX4_shareOf_22 : decode cX4_shareOf 22 = .ok (.iaload, 1) := by decide +kernel
theorem dX4_shareOf_23 : decode cX4_shareOf 23 = .ok (.ireturn, 1) := by decide +kernel
theorem dX4_startOf_0 : decode cX4_startOf 0 = .ok (.iload_n 1, 1) := by decide +kernel
theorem dX4_startOf_1 : decode cX4_startOf 1 = .ok (.ifCond .lt 12, 3) := by decide +kernel
theorem dX4_startOf_4 : decode cX4_startOf 4 = .ok (.iload_n 1, 1) := by decide +kernel
theorem dX4_startOf_5 : decode cX4_startOf 5 = .ok (.aload_n 0, 1) := by decide +kernel
theorem dX4_startOf_6 : decode cX4_startOf 6 = .ok (.getfield 18, 3) := by decide +kernel
theorem dX4_startOf_9 : decode cX4_startOf 9 = .ok (.arraylength, 1) := by decide +kernel
theorem dX4_startOf_10 : decode cX4_startOf 10 = .ok (.if_icmp .lt 11, 3) := by decide +kernel
theorem dX4_startOf_13 : decode cX4_startOf 13 = .ok (.aload_n 0, 1) := by decide +kernel
theorem dX4_startOf_14 : decode cX4_startOf 14 = .ok (.getfield 21, 3) := by decide +kernel
theorem dX4_startOf_17 : decode cX4_startOf 17 = .ok (.arraylength, 1) := by decide +kernel
theorem dX4_startOf_18 : decode cX4_startOf 18 = .ok (.goto 9, 3) := by decide +kernel
theorem dX4_startOf_21 : decode cX4_startOf 21 = .ok (.aload_n 0, 1) := by decide +kernel
theorem dX4_startOf_22 : decode cX4_startOf 22 = .ok (.getfield 18, 3) := by decide +kernel
theorem dX4_startOf_25 : decode cX4_startOf 25 = .ok (.iload_n 1, 1) := by decide +kernel
theorem dX4_startOf_26 : decode cX4_startOf 26 = .ok (.iaload, 1) := by decide +kernel
theorem dX4_startOf_27 : decode cX4_startOf 27 = .ok (.ireturn, 1) := by decide +kernel
theorem dX4_codeAt_0 : decode cX4_codeAt 0 = .ok (.iload_n 1, 1) := by decide +kernel
theorem dX4_codeAt_1 : decode cX4_codeAt 1 = .ok (.ifCond .lt 12, 3) := by decide +kernel
theorem dX4_codeAt_4 : decode cX4_codeAt 4 = .ok (.iload_n 1, 1) := by decide +kernel
theorem dX4_codeAt_5 : decode cX4_codeAt 5 = .ok (.aload_n 0, 1) := by decide +kernel
theorem dX4_codeAt_6 : decode cX4_codeAt 6 = .ok (.getfield 21, 3) := by decide +kernel
theorem dX4_codeAt_9 : decode cX4_codeAt 9 = .ok (.arraylength, 1) := by decide +kernel
theorem dX4_codeAt_10 : decode cX4_codeAt 10 = .ok (.if_icmp .lt 7, 3) := by decide +kernel
theorem dX4_codeAt_13 : decode cX4_codeAt 13 = .ok (.iconst 0, 1) := by decide +kernel
theorem dX4_codeAt_14 : decode cX4_codeAt 14 = .ok (.goto 9, 3) := by decide +kernel
theorem dX4_codeAt_17 : decode cX4_codeAt 17 = .ok (.aload_n 0, 1) := by decide +kernel
theorem dX4_codeAt_18 : decode cX4_codeAt 18 = .ok (.getfield 21, 3) := by decide +kernel
theorem dX4_codeAt_21 : decode cX4_codeAt 21 = .ok (.iload_n 1, 1) := by decide +kernel
theorem dX4_codeAt_22 : decode cX4_codeAt 22 = .ok (.iaload, 1) := by decide +kernel
theorem dX4_codeAt_23 : decode cX4_codeAt 23 = .ok (.ireturn, 1) := by decide +kernel
theorem dX5_init_0 : decode cX5_init 0 = .ok (.aload_n 0, 1) := by decide +kernel
theorem dX5_init_1 : decode cX5_init 1 = .ok (.invokespecial 3, 3) := by decide +kernel
theorem dX5_init_4 : decode cX5_init 4 = .ok (.aload_n 0, 1) := by decide +kernel
theorem dX5_init_5 : decode cX5_init 5 = .ok (.bipush 10, 2) := by decide +kernel
theorem dX5_init_7 : decode cX5_init 7 = .ok (.newarray .long, 2) := by decide +kernel
theorem dX5_init_9 : decode cX5_init 9 = .ok (.putfield 9, 3) := by decide +kernel
theorem dX5_init_12 : decode cX5_init 12 = .ok (.aload_n 0, 1) := by decide +kernel
theorem dX5_init_13 : decode cX5_init 13 = .ok (.bipush 64, 2) := by decide +kernel
theorem dX5_init_15 : decode cX5_init 15 = .ok (.newarray .long, 2) := by decide +kernel
theorem dX5_init_17 : decode cX5_init 17 = .ok (.putfield 15, 3) := by decide +kernel
theorem dX5_init_20 : decode cX5_init 20 = .ok (.return_, 1) := by decide +kernel
theorem dX5_tell_0 : decode cX5_tell 0 = .ok (.iload_n 1, 1) := by decide +kernel
theorem dX5_tell_1 : decode cX5_tell 1 = .ok (.bipush 11, 2) := by decide +kernel
theorem dX5_tell_3 : decode cX5_tell 3 = .ok (.if_icmp .lt 19, 3) := by decide +kernel
theorem dX5_tell_6 : decode cX5_tell 6 = .ok (.iload_n 1, 1) := by decide +kernel
theorem dX5_tell_7 : decode cX5_tell 7 = .ok (.bipush 20, 2) := by decide +kernel
theorem dX5_tell_9 : decode cX5_tell 9 = .ok (.if_icmp .gt 13, 3) := by decide +kernel
theorem dX5_tell_12 : decode cX5_tell 12 = .ok (.aload_n 0, 1) := by decide +kernel
theorem dX5_tell_13 : decode cX5_tell 13 = .ok (.getfield 9, 3) := by decide +kernel
theorem dX5_tell_16 : decode cX5_tell 16 = .ok (.iload_n 1, 1) := by decide +kernel
theorem dX5_tell_17 : decode cX5_tell 17 = .ok (.bipush 11, 2) := by decide +kernel
theorem dX5_tell_19 : decode cX5_tell 19 = .ok (.isub, 1) := by decide +kernel
theorem dX5_tell_20 : decode cX5_tell 20 = .ok (.lload_n 2, 1) := by decide +kernel
theorem dX5_tell_21 : decode cX5_tell 21 = .ok (.lastore, 1) := by decide +kernel
theorem dX5_tell_22 : decode cX5_tell 22 = .ok (.return_, 1) := by decide +kernel
set_option maxRecDepth 20000 in
theorem ggX5_firstHeld_X5_holds : GoodIn wsX5_firstHeld wsX5_holds := goodIn_r _ [5, 6, 7, 8, 9, 10, 11, 12, 13, 14, 15, 16, 17, 18, 4, 19, 20, 21, 22, 23, 24, 25, 26, 27, 28, 29, 30, 31, 32, 37, 38, 39, 33, 34, 35, 36] (by decide +kernel) (by decide +kernel)
set_option maxRecDepth 20000 in
theorem gX5_firstHeld_X5_holds : GoodIn wsX5_firstHeld (wsV RX5 24 RX5 yX5_holds wsX5_holds) := goodIn_app (goodIn_of _ (by decide +kernel)) ggX5_firstHeld_X5_holds
theorem dX5_firstHeld_0 : decode cX5_firstHeld 0 = .ok (.iconst 0, 1) := by decide +kernel
theorem dX5_firstHeld_1 : decode cX5_firstHeld 1 = .ok (.istore_n 2, 1) := by decide +kernel
theorem dX5_firstHeld_2 : decode cX5_firstHeld 2 = .ok (.iload_n 2, 1) := by decide +kernel
theorem dX5_firstHeld_3 : decode cX5_firstHeld 3 = .ok (.aload_n 1, 1) := by decide +kernel
theorem dX5_firstHeld_4 : decode cX5_firstHeld 4 = .ok (.getfield 18, 3) := by decide +kernel
theorem dX5_firstHeld_7 : decode cX5_firstHeld 7 = .ok (.arraylength, 1) := by decide +kernel
theorem dX5_firstHeld_8 : decode cX5_firstHeld 8 = .ok (.if_icmp .ge 20, 3) := by decide +kernel
theorem dX5_firstHeld_11 : decode cX5_firstHeld 11 = .ok (.aload_n 0, 1) := by decide +kernel
theorem dX5_firstHeld_12 : decode cX5_firstHeld 12 = .ok (.aload_n 1, 1) := by decide +kernel
theorem dX5_firstHeld_13 : decode cX5_firstHeld 13 = .ok (.iload_n 2, 1) := by decide +kernel
theorem dX5_firstHeld_14 : decode cX5_firstHeld 14 = .ok (.invokevirtual 24, 3) := by decide +kernel
theorem dX5_firstHeld_17 : decode cX5_firstHeld 17 = .ok (.ifCond .eq 5, 3) := by decide +kernel
theorem dX5_firstHeld_20 : decode cX5_firstHeld 20 = .ok (.iload_n 2, 1) := by decide +kernel
theorem dX5_firstHeld_21 : decode cX5_firstHeld 21 = .ok (.ireturn, 1) := by decide +kernel
theorem dX5_firstHeld_22 : decode cX5_firstHeld 22 = .ok (.iinc 2 1, 3) := by decide +kernel
theorem dX5_firstHeld_25 : decode cX5_firstHeld 25 = .ok (.goto (-23), 3) := by decide +kernel
theorem dX5_firstHeld_28 : decode cX5_firstHeld 28 = .ok (.iconst (-1), 1) := by decide +kernel
theorem dX5_firstHeld_29 : decode cX5_firstHeld 29 = .ok (.ireturn, 1) := by decide +kernel
set_option maxRecDepth 20000 in
theorem ggX5_holds_X4_startOf : GoodIn wsX5_holds wsX4_startOf := goodIn_r _ [5, 6, 7, 32, 33, 34, 35] (by decide +kernel) (by decide +kernel)
set_option maxRecDepth 20000 in
theorem gX5_holds_X4_startOf_n28 : GoodIn wsX5_holds (wsX4_startOf) := ggX5_holds_X4_startOf
set_option maxRecDepth 20000 in
theorem ggX5_holds_X4_codeAt : GoodIn wsX5_holds wsX4_codeAt := goodIn_r _ [10, 7, 32, 33, 34, 35] (by decide +kernel) (by decide +kernel)
set_option maxRecDepth 20000 in
theorem gX5_holds_X4_codeAt_n36 : GoodIn wsX5_holds (wsX4_codeAt) := ggX5_holds_X4_codeAt
set_option maxRecDepth 20000 in
theorem ggX5_holds_X5_doStep : GoodIn wsX5_holds wsX5_doStep := goodIn_r _ [15, 16, 17, 18, 19, 14, 20, 1, 21, 22, 23, 24, 25, 26, 27, 28, 29, 30, 31] (by decide +kernel) (by decide +kernel)
set_option maxRecDepth 20000 in
theorem gX5_holds_X5_doStep : GoodIn wsX5_holds (wsV RX5 39 RX5 yX5_doStep wsX5_doStep) := goodIn_app (goodIn_of _ (by decide +kernel)) ggX5_holds_X5_doStep
set_option maxRecDepth 20000 in
theorem ggX5_holds_X5_pop : GoodIn wsX5_holds wsX5_pop := goodIn_r _ [25, 1, 21, 29, 30, 31] (by decide +kernel) (by decide +kernel)
set_option maxRecDepth 20000 in
theorem gX5_holds_X5_pop : GoodIn wsX5_holds (wsV RX5 43 RX5 yX5_pop wsX5_pop) := goodIn_app (goodIn_of _ (by decide +kernel)) ggX5_holds_X5_pop
theorem dX5_holds_0 : decode cX5_holds 0 = .ok (.aload_n 1, 1) := by decide +kernel
theorem dX5_holds_1 : decode cX5_holds 1 = .ok (.iload_n 2, 1) := by decide +kernel
theorem dX5_holds_2 : decode cX5_holds 2 = .ok (.invokevirtual 28, 3) := by decide +kernel
theorem dX5_holds_5 : decode cX5_holds 5 = .ok (.istore_n 3, 1) := by decide +kernel
theorem dX5_holds_6 : decode cX5_holds 6 = .ok (.aload_n 1, 1) := by decide +kernel
theorem dX5_holds_7 : decode cX5_holds 7 = .ok (.iload_n 2, 1) := by decide +kernel
theorem dX5_holds_8 : decode cX5_holds 8 = .ok (.iconst 1, 1) := by decide +kernel
theorem dX5_holds_9 : decode cX5_holds 9 = .ok (.iadd, 1) := by decide +kernel
theorem dX5_holds_10 : decode cX5_holds 10 = .ok (.invokevirtual 28, 3) := by decide +kernel
theorem dX5_holds_13 : decode cX5_holds 13 = .ok (.istore 4, 2) := by decide +kernel
theorem dX5_holds_15 : decode cX5_holds 15 = .ok (.aload_n 0, 1) := by decide +kernel
theorem dX5_holds_16 : decode cX5_holds 16 = .ok (.iconst 0, 1) := by decide +kernel
theorem dX5_holds_17 : decode cX5_holds 17 = .ok (.putfield 32, 3) := by decide +kernel
theorem dX5_holds_20 : decode cX5_holds 20 = .ok (.iload_n 3, 1) := by decide +kernel
theorem dX5_holds_21 : decode cX5_holds 21 = .ok (.istore 5, 2) := by decide +kernel
theorem dX5_holds_23 : decode cX5_holds 23 = .ok (.iload 5, 2) := by decide +kernel
theorem dX5_holds_25 : decode cX5_holds 25 = .ok (.iload 4, 2) := by decide +kernel
theorem dX5_holds_27 : decode cX5_holds 27 = .ok (.if_icmp .ge 19, 3) := by decide +kernel
theorem dX5_holds_30 : decode cX5_holds 30 = .ok (.aload_n 0, 1) := by decide +kernel
theorem dX5_holds_31 : decode cX5_holds 31 = .ok (.aload_n 1, 1) := by decide +kernel
theorem dX5_holds_32 : decode cX5_holds 32 = .ok (.iload 5, 2) := by decide +kernel
theorem dX5_holds_34 : decode cX5_holds 34 = .ok (.invokevirtual 36, 3) := by decide +kernel
theorem dX5_holds_37 : decode cX5_holds 37 = .ok (.invokevirtual 39, 3) := by decide +kernel
theorem dX5_holds_40 : decode cX5_holds 40 = .ok (.iinc 5 1, 3) := by decide +kernel
theorem dX5_holds_43 : decode cX5_holds 43 = .ok (.goto (-20), 3) := by decide +kernel
theorem dX5_holds_46 : decode cX5_holds 46 = .ok (.iload_n 3, 1) := by decide +kernel
theorem dX5_holds_47 : decode cX5_holds 47 = .ok (.iload 4, 2) := by decide +kernel
theorem dX5_holds_49 : decode cX5_holds 49 = .ok (.if_icmp .ge 12, 3) := by decide +kernel
theorem dX5_holds_52 : decode cX5_holds 52 = .ok (.aload_n 0, 1) := by decide +kernel
theorem dX5_holds_53 : decode cX5_holds 53 = .ok (.invokevirtual 43, 3) := by decide +kernel
theorem dX5_holds_56 : decode cX5_holds 56 = .ok (.lconst 0, 1) := by decide +kernel
theorem dX5_holds_57 : decode cX5_holds 57 = .ok (.lcmp, 1) := by decide +kernel
theorem dX5_holds_58 : decode cX5_holds 58 = .ok (.ifCond .eq 7, 3) := by decide +kernel
theorem dX5_holds_61 : decode cX5_holds 61 = .ok (.iconst 1, 1) := by decide +kernel
theorem dX5_holds_62 : decode cX5_holds 62 = .ok (.goto 4, 3) := by decide +kernel
theorem dX5_holds_65 : decode cX5_holds 65 = .ok (.iconst 0, 1) := by decide +kernel
theorem dX5_holds_66 : decode cX5_holds 66 = .ok (.ireturn, 1) := by decide +kernel
set_option maxRecDepth 20000 in
theorem ggX5_doStep_X5_push : GoodIn wsX5_doStep wsX5_push := goodIn_r _ [6, 7, 8, 16, 17, 18] (by decide +kernel) (by decide +kernel)
set_option maxRecDepth 20000 in
theorem gX5_doStep_X5_push : GoodIn wsX5_doStep (wsV RX5 47 RX5 yX5_push wsX5_push) := goodIn_app (goodIn_of _ (by decide +kernel)) ggX5_doStep_X5_push
set_option maxRecDepth 20000 in
theorem ggX5_doStep_X5_pop : GoodIn wsX5_doStep wsX5_pop := goodIn_r _ [12, 7, 8, 16, 17, 18] (by decide +kernel) (by decide +kernel)
set_option maxRecDepth 20000 in
theorem gX5_doStep_X5_pop : GoodIn wsX5_doStep (wsV RX5 43 RX5 yX5_pop wsX5_pop) := goodIn_app (goodIn_of _ (by decide +kernel)) ggX5_doStep_X5_pop
set_option maxRecDepth 20000 in
theorem ggX5_doStep_X5_joined : GoodIn wsX5_doStep wsX5_joined := goodIn_r _ [15] (by decide +kernel) (by decide +kernel)
set_option maxRecDepth 20000 in
theorem gX5_doStep_X5_joined : GoodIn wsX5_doStep (va_wsS RX5 51 yX5_joined wsX5_joined) := goodIn_app (goodIn_of _ (by decide +kernel)) ggX5_doStep_X5_joined
theorem dX5_doStep_0 : decode cX5_doStep 0 = .ok (.iload_n 1, 1) := by decide +kernel
theorem dX5_doStep_1 : decode cX5_doStep 1 = .ok (.ineg, 1) := by decide +kernel
theorem dX5_doStep_2 : decode cX5_doStep 2 = .ok (.istore_n 2, 1) := by decide +kernel
theorem dX5_doStep_3 : decode cX5_doStep 3 = .ok (.iload_n 1, 1) := by decide +kernel
theorem dX5_doStep_4 : decode cX5_doStep 4 = .ok (.ifCond .lt 12, 3) := by decide +kernel
theorem dX5_doStep_7 : decode cX5_doStep 7 = .ok (.aload_n 0, 1) := by decide +kernel
theorem dX5_doStep_8 : decode cX5_doStep 8 = .ok (.iload_n 1, 1) := by decide +kernel
theorem dX5_doStep_9 : decode cX5_doStep 9 = .ok (.i2l, 1) := by decide +kernel
theorem dX5_doStep_10 : decode cX5_doStep 10 = .ok (.invokevirtual 47, 3) := by decide +kernel
theorem dX5_doStep_13 : decode cX5_doStep 13 = .ok (.goto 80, 3) := by decide +kernel
theorem dX5_doStep_16 : decode cX5_doStep 16 = .ok (.iload_n 2, 1) := by decide +kernel
theorem dX5_doStep_17 : decode cX5_doStep 17 = .ok (.bipush 11, 2) := by decide +kernel
theorem dX5_doStep_19 : decode cX5_doStep 19 = .ok (.if_icmp .lt 25, 3) := by decide +kernel
theorem dX5_doStep_22 : decode cX5_doStep 22 = .ok (.iload_n 2, 1) := by decide +kernel
theorem dX5_doStep_23 : decode cX5_doStep 23 = .ok (.bipush 20, 2) := by decide +kernel
theorem dX5_doStep_25 : decode cX5_doStep 25 = .ok (.if_icmp .gt 19, 3) := by decide +kernel
theorem dX5_doStep_28 : decode cX5_doStep 28 = .ok (.aload_n 0, 1) := by decide +kernel
theorem dX5_doStep_29 : decode cX5_doStep 29 = .ok (.aload_n 0, 1) := by decide +kernel
theorem dX5_doStep_30 : decode cX5_doStep 30 = .ok (.getfield 9, 3) := by decide +kernel
theorem dX5_doStep_33 : decode cX5_doStep 33 = .ok (.iload_n 2, 1) := by decide +kernel
theorem dX5_doStep_34 : decode cX5_doStep 34 = .ok (.bipush 11, 2) := by decide +kernel
theorem dX5_doStep_36 : decode cX5_doStep 36 = .ok (.isub, 1) := by decide +kernel
theorem dX5_doStep_37 : decode cX5_doStep 37 = .ok (.laload, 1) := by decide +kernel
theorem dX5_doStep_38 : decode cX5_doStep 38 = .ok (.invokevirtual 47, 3) := by decide +kernel
theorem dX5_doStep_41 : decode cX5_doStep 41 = .ok (.goto 52, 3) := by decide +kernel
theorem dX5_doStep_44 : decode cX5_doStep 44 = .ok (.iload_n 2, 1) := by decide +kernel
theorem dX5_doStep_45 : decode cX5_doStep 45 = .ok (.bipush 10, 2) := by decide +kernel
theorem dX5_doStep_47 : decode cX5_doStep 47 = .ok (.if_icmp .ne 24, 3) := by decide +kernel
theorem dX5_doStep_50 : decode cX5_doStep 50 = .ok (.aload_n 0, 1) := by decide +kernel
theorem dX5_doStep_51 : decode cX5_doStep 51 = .ok (.aload_n 0, 1) := by decide +kernel
theorem dX5_doStep_52 : decode cX5_doStep 52 = .ok (.invokevirtual 43, 3) := by decide +kernel
theorem dX5_doStep_55 : decode cX5_doStep 55 = .ok (.lconst 0, 1) := by decide +kernel
theorem dX5_doStep_56 : decode cX5_doStep 56 = .ok (.lcmp, 1) := by decide +kernel
theorem dX5_doStep_57 : decode cX5_doStep 57 = .ok (.ifCond .ne 7, 3) := by decide +kernel
theorem dX5_doStep_60 : decode cX5_doStep 60 = .ok (.lconst 1, 1) := by decide +kernel
theorem dX5_doStep_61 : decode cX5_doStep 61 = .ok (.goto 4, 3) := by decide +kernel
theorem dX5_doStep_64 : decode cX5_doStep 64 = .ok (.lconst 0, 1) := by decide +kernel
theorem dX5_doStep_65 : decode cX5_doStep 65 = .ok (.invokevirtual 47, 3) := by decide +kernel
theorem dX5_doStep_68 : decode cX5_doStep 68 = .ok (.goto 25, 3) := by decide +kernel
theorem dX5_doStep_71 : decode cX5_doStep 71 = .ok (.aload_n 0, 1) := by decide +kernel
theorem dX5_doStep_72 : decode cX5_doStep 72 = .ok (.invokevirtual 43, 3) := by decide +kernel
theorem dX5_doStep_75 : decode cX5_doStep 75 = .ok (.lstore_n 3, 1) := by decide +kernel
theorem dX5_doStep_76 : decode cX5_doStep 76 = .ok (.aload_n 0, 1) := by decide +kernel
theorem dX5_doStep_77 : decode cX5_doStep 77 = .ok (.invokevirtual 43, 3) := by decide +kernel
theorem dX5_doStep_80 : decode cX5_doStep 80 = .ok (.lstore 5, 2) := by decide +kernel
theorem dX5_doStep_82 : decode cX5_doStep 82 = .ok (.aload_n 0, 1) := by decide +kernel
theorem dX5_doStep_83 : decode cX5_doStep 83 = .ok (.iload_n 2, 1) := by decide +kernel
theorem dX5_doStep_84 : decode cX5_doStep 84 = .ok (.lload 5, 2) := by decide +kernel
theorem dX5_doStep_86 : decode cX5_doStep 86 = .ok (.lload_n 3, 1) := by decide +kernel
theorem dX5_doStep_87 : decode cX5_doStep 87 = .ok (.invokestatic 51, 3) := by decide +kernel
theorem dX5_doStep_90 : decode cX5_doStep 90 = .ok (.invokevirtual 47, 3) := by decide +kernel
theorem dX5_doStep_93 : decode cX5_doStep 93 = .ok (.return_, 1) := by decide +kernel
theorem dX5_joined_0 : decode cX5_joined 0 = .ok (.iload_n 0, 1) := by decide +kernel
theorem dX5_joined_1 : decode cX5_joined 1 = .ok (.lookupswitch 119 #[(8, 115), (42, 75), (43, 67), (45, 71), (60, 79), (61, 91), (62, 103)], 67) := by decide +kernel
theorem dX5_joined_68 : decode cX5_joined 68 = .ok (.lload_n 1, 1) := by decide +kernel
theorem dX5_joined_69 : decode cX5_joined 69 = .ok (.lload_n 3, 1) := by decide +kernel
theorem dX5_joined_70 : decode cX5_joined 70 = .ok (.ladd, 1) := by decide +kernel
theorem dX5_joined_71 : decode cX5_joined 71 = .ok (.lreturn, 1) := by decide +kernel
theorem dX5_joined_72 : decode cX5_joined 72 = .ok (.lload_n 1, 1) := by decide +kernel
theorem dX5_joined_73 : decode cX5_joined 73 = .ok (.lload_n 3, 1) := by decide +kernel
theorem dX5_joined_74 : decode cX5_joined 74 = .ok (.lsub, 1) := by decide +kernel
theorem dX5_joined_75 : decode cX5_joined 75 = .ok (.lreturn, 1) := by decide +kernel
theorem dX5_joined_76 : decode cX5_joined 76 = .ok (.lload_n 1, 1) := by decide +kernel
theorem dX5_joined_77 : decode cX5_joined 77 = .ok (.lload_n 3, 1) := by decide +kernel
theorem dX5_joined_78 : decode cX5_joined 78 = .ok (.lmul, 1) := by decide +kernel
theorem dX5_joined_79 : decode cX5_joined 79 = .ok (.lreturn, 1) := by decide +kernel
theorem dX5_joined_80 : decode cX5_joined 80 = .ok (.lload_n 1, 1) := by decide +kernel
theorem dX5_joined_81 : decode cX5_joined 81 = .ok (.lload_n 3, 1) := by decide +kernel
theorem dX5_joined_82 : decode cX5_joined 82 = .ok (.lcmp, 1) := by decide +kernel
theorem dX5_joined_83 : decode cX5_joined 83 = .ok (.ifCond .ge 7, 3) := by decide +kernel
theorem dX5_joined_86 : decode cX5_joined 86 = .ok (.lconst 1, 1) := by decide +kernel
theorem dX5_joined_87 : decode cX5_joined 87 = .ok (.goto 4, 3) := by decide +kernel
theorem dX5_joined_90 : decode cX5_joined 90 = .ok (.lconst 0, 1) := by decide +kernel
theorem dX5_joined_91 : decode cX5_joined 91 = .ok (.lreturn, 1) := by decide +kernel
theorem dX5_joined_92 : decode cX5_joined 92 = .ok (.lload_n 1, 1) := by decide +kernel
theorem dX5_joined_93 : decode cX5_joined 93 = .ok (.lload_n 3, 1) := by decide +kernel
theorem dX5_joined_94 : decode cX5_joined 94 = .ok (.lcmp, 1) := by decide +kernel
theorem dX5_joined_95 : decode cX5_joined 95 = .ok (.ifCond .ne 7, 3) := by decide +kernel
theorem dX5_joined_98 : decode cX5_joined 98 = .ok (.lconst 1, 1) := by decide +kernel
theorem dX5_joined_99 : decode cX5_joined 99 = .ok (.goto 4, 3) := by decide +kernel
theorem dX5_joined_102 : decode cX5_joined 102 = .ok (.lconst 0, 1) := by decide +kernel
theorem dX5_joined_103 : decode cX5_joined 103 = .ok (.lreturn, 1) := by decide +kernel
theorem dX5_joined_104 : decode cX5_joined 104 = .ok (.lload_n 1, 1) := by decide +kernel
theorem dX5_joined_105 : decode cX5_joined 105 = .ok (.lload_n 3, 1) := by decide +kernel
theorem dX5_joined_106 : decode cX5_joined 106 = .ok (.lcmp, 1) := by decide +kernel
theorem dX5_joined_107 : decode cX5_joined 107 = .ok (.ifCond .le 7, 3) := by decide +kernel
theorem dX5_joined_110 : decode cX5_joined 110 = .ok (.lconst 1, 1) := by decide +kernel
theorem dX5_joined_111 : decode cX5_joined 111 = .ok (.goto 4, 3) := by decide +kernel
theorem dX5_joined_114 : decode cX5_joined 114 = .ok (.lconst 0, 1) := by decide +kernel
theorem dX5_joined_115 : decode cX5_joined 115 = .ok (.lreturn, 1) := by decide +kernel
theorem dX5_joined_116 : decode cX5_joined 116 = .ok (.lload_n 1, 1) := by decide +kernel
theorem dX5_joined_117 : decode cX5_joined 117 = .ok (.lload_n 3, 1) := by decide +kernel
theorem dX5_joined_118 : decode cX5_joined 118 = .ok (.land, 1) := by decide +kernel
theorem dX5_joined_119 : decode cX5_joined 119 = .ok (.lreturn, 1) := by decide +kernel
theorem dX5_joined_120 : decode cX5_joined 120 = .ok (.lload_n 1, 1) := by decide +kernel
theorem dX5_joined_121 : decode cX5_joined 121 = .ok (.lload_n 3, 1) := by decide +kernel
theorem dX5_joined_122 : decode cX5_joined 122 = .ok (.lor, 1) := by decide +kernel
theorem dX5_joined_123 : decode cX5_joined 123 = .ok (.lreturn, 1) := by decide +kernel
theorem dX5_push_0 : decode cX5_push 0 = .ok (.aload_n 0, 1) := by decide +kernel
theorem dX5_push_1 : decode cX5_push 1 = .ok (.getfield 32, 3) := by decide +kernel
theorem dX5_push_4 : decode cX5_push 4 = .ok (.bipush 64, 2) := by decide +kernel
theorem dX5_push_6 : decode cX5_push 6 = .ok (.if_icmp .ge 23, 3) := by decide +kernel
theorem dX5_push_9 : decode cX5_push 9 = .ok (.aload_n 0, 1) := by decide +kernel
theorem dX5_push_10 : decode cX5_push 10 = .ok (.getfield 15, 3) := by decide +kernel
theorem dX5_push_13 : decode cX5_push 13 = .ok (.aload_n 0, 1) := by decide +kernel
theorem dX5_push_14 : decode cX5_push 14 = .ok (.getfield 32, 3) := by decide +kernel
theorem dX5_push_17 : decode cX5_push 17 = .ok (.lload_n 1, 1) := by decide +kernel
theorem dX5_push_18 : decode cX5_push 18 = .ok (.lastore, 1) := by decide +kernel
theorem dX5_push_19 : decode cX5_push 19 = .ok (.aload_n 0, 1) := by decide +kernel
theorem dX5_push_20 : decode cX5_push 20 = .ok (.dup, 1) := by decide +kernel
theorem dX5_push_21 : decode cX5_push 21 = .ok (.getfield 32, 3) := by decide +kernel
theorem dX5_push_24 : decode cX5_push 24 = .ok (.iconst 1, 1) := by decide +kernel
theorem dX5_push_25 : decode cX5_push 25 = .ok (.iadd, 1) := by decide +kernel
theorem dX5_push_26 : decode cX5_push 26 = .ok (.putfield 32, 3) := by decide +kernel
theorem dX5_push_29 : decode cX5_push 29 = .ok (.return_, 1) := by decide +kernel
theorem dX5_pop_0 : decode cX5_pop 0 = .ok (.aload_n 0, 1) := by decide +kernel
theorem dX5_pop_1 : decode cX5_pop 1 = .ok (.getfield 32, 3) := by decide +kernel
theorem dX5_pop_4 : decode cX5_pop 4 = .ok (.iconst 1, 1) := by decide +kernel
theorem dX5_pop_5 : decode cX5_pop 5 = .ok (.if_icmp .ge 5, 3) := by decide +kernel
theorem dX5_pop_8 : decode cX5_pop 8 = .ok (.lconst 0, 1) := by decide +kernel
theorem dX5_pop_9 : decode cX5_pop 9 = .ok (.lreturn, 1) := by decide +kernel
theorem dX5_pop_10 : decode cX5_pop 10 = .ok (.aload_n 0, 1) := by decide +kernel
theorem dX5_pop_11 : decode cX5_pop 11 = .ok (.dup, 1) := by decide +kernel
theorem dX5_pop_12 : decode cX5_pop 12 = .ok (.getfield 32, 3) := by decide +kernel
theorem dX5_pop_15 : decode cX5_pop 15 = .ok (.iconst 1, 1) := by decide +kernel
theorem dX5_pop_16 : decode cX5_pop 16 = .ok (.isub, 1) := by decide +kernel
theorem dX5_pop_17 : decode cX5_pop 17 = .ok (.putfield 32, 3) := by decide +kernel
theorem dX5_pop_20 : decode cX5_pop 20 = .ok (.aload_n 0, 1) := by decide +kernel
theorem dX5_pop_21 : decode cX5_pop 21 = .ok (.getfield 15, 3) := by decide +kernel
theorem dX5_pop_24 : decode cX5_pop 24 = .ok (.aload_n 0, 1) := by decide +kernel
theorem dX5_pop_25 : decode cX5_pop 25 = .ok (.getfield 32, 3) := by decide +kernel
theorem dX5_pop_28 : decode cX5_pop 28 = .ok (.laload, 1) := by decide +kernel
theorem dX5_pop_29 : decode cX5_pop 29 = .ok (.lreturn, 1) := by decide +kernel
set_option maxRecDepth 20000 in
theorem ggX6_init_X3_init : GoodIn wsX6_init wsX3_init := goodIn_r _ [38, 39, 2, 3, 40, 41, 74, 75] (by decide +kernel) (by decide +kernel)
set_option maxRecDepth 20000 in
theorem gX6_init_X3_init_n9 : GoodIn wsX6_init (wsX3_init) := ggX6_init_X3_init
set_option maxRecDepth 20000 in
theorem ggX6_init_X1_init : GoodIn wsX6_init wsX1_init := goodIn_r _ [43, 44, 2, 3, 26, 45, 46, 47, 48, 49, 50, 94, 95, 96, 97, 98, 99, 100, 101, 102, 103, 104, 105, 106, 107, 108, 109, 110] (by decide +kernel) (by decide +kernel)
set_option maxRecDepth 20000 in
theorem gX6_init_X1_init_n18 : GoodIn wsX6_init (wsX1_init) := ggX6_init_X1_init
set_option maxRecDepth 20000 in
theorem ggX6_init_X5_init : GoodIn wsX6_init wsX5_init := goodIn_r _ [52, 53, 2, 3, 22, 54, 55, 111, 112, 113] (by decide +kernel) (by decide +kernel)
set_option maxRecDepth 20000 in
theorem gX6_init_X5_init_n27 : GoodIn wsX6_init (wsX5_init) := ggX6_init_X5_init
set_option maxRecDepth 20000 in
theorem ggX6_init_X2_init : GoodIn wsX6_init wsX2_init := goodIn_r _ [57, 58, 2, 3, 59, 60, 61, 62, 63, 64, 26, 65, 114, 115, 116, 117] (by decide +kernel) (by decide +kernel)
set_option maxRecDepth 20000 in
theorem gX6_init_X2_init_n40 : GoodIn wsX6_init (wsX2_init) := ggX6_init_X2_init
set_option maxRecDepth 20000 in
theorem ggX6_init_X0_init : GoodIn wsX6_init wsX0_init := goodIn_r _ [67, 68, 2, 3, 26, 69, 118] (by decide +kernel) (by decide +kernel)
set_option maxRecDepth 20000 in
theorem gX6_init_X0_init_n76 : GoodIn wsX6_init (wsX0_init) := ggX6_init_X0_init
set_option maxRecDepth 20000 in
theorem ggX6_init_J7_fill_53178 : GoodIn wsX6_init wsJ7_fill_53178 := goodIn_r _ [73] (by decide +kernel) (by decide +kernel)
set_option maxRecDepth 20000 in
theorem gX6_init_J7_fill_53178 : GoodIn wsX6_init (va_wsS RX6 81 yJ7_fill_53178 wsJ7_fill_53178) := goodIn_app (goodIn_of _ (by decide +kernel)) ggX6_init_J7_fill_53178
theorem dX6_init_0 : decode cX6_init 0 = .ok (.aload_n 0, 1) := by decide +kernel
theorem dX6_init_1 : decode cX6_init 1 = .ok (.invokespecial 1, 3) := by decide +kernel
theorem dX6_init_4 : decode cX6_init 4 = .ok (.aload_n 0, 1) := by decide +kernel
theorem dX6_init_5 : decode cX6_init 5 = .ok (.new 7, 3) := by decide +kernel
theorem dX6_init_8 : decode cX6_init 8 = .ok (.dup, 1) := by decide +kernel
theorem dX6_init_9 : decode cX6_init 9 = .ok (.invokespecial 9, 3) := by decide +kernel
theorem dX6_init_12 : decode cX6_init 12 = .ok (.putfield 10, 3) := by decide +kernel
theorem dX6_init_15 : decode cX6_init 15 = .ok (.aload_n 0, 1) := by decide +kernel
theorem dX6_init_16 : decode cX6_init 16 = .ok (.new 16, 3) := by decide +kernel
theorem dX6_init_19 : decode cX6_init 19 = .ok (.dup, 1) := by decide +kernel
theorem dX6_init_20 : decode cX6_init 20 = .ok (.aload_n 0, 1) := by decide +kernel
theorem dX6_init_21 : decode cX6_init 21 = .ok (.getfield 10, 3) := by decide +kernel
theorem dX6_init_24 : decode cX6_init 24 = .ok (.invokespecial 18, 3) := by decide +kernel
theorem dX6_init_27 : decode cX6_init 27 = .ok (.putfield 21, 3) := by decide +kernel
theorem dX6_init_30 : decode cX6_init 30 = .ok (.aload_n 0, 1) := by decide +kernel
theorem dX6_init_31 : decode cX6_init 31 = .ok (.new 25, 3) := by decide +kernel
theorem dX6_init_34 : decode cX6_init 34 = .ok (.dup, 1) := by decide +kernel
theorem dX6_init_35 : decode cX6_init 35 = .ok (.invokespecial 27, 3) := by decide +kernel
theorem dX6_init_38 : decode cX6_init 38 = .ok (.putfield 28, 3) := by decide +kernel
theorem dX6_init_41 : decode cX6_init 41 = .ok (.aload_n 0, 1) := by decide +kernel
theorem dX6_init_42 : decode cX6_init 42 = .ok (.bipush 10, 2) := by decide +kernel
theorem dX6_init_44 : decode cX6_init 44 = .ok (.anewarray 32, 3) := by decide +kernel
theorem dX6_init_47 : decode cX6_init 47 = .ok (.putfield 34, 3) := by decide +kernel
theorem dX6_init_50 : decode cX6_init 50 = .ok (.aload_n 0, 1) := by decide +kernel
theorem dX6_init_51 : decode cX6_init 51 = .ok (.new 38, 3) := by decide +kernel
theorem dX6_init_54 : decode cX6_init 54 = .ok (.dup, 1) := by decide +kernel
theorem dX6_init_55 : decode cX6_init 55 = .ok (.iconst 2, 1) := by decide +kernel
theorem dX6_init_56 : decode cX6_init 56 = .ok (.bipush 40, 2) := by decide +kernel
theorem dX6_init_58 : decode cX6_init 58 = .ok (.invokespecial 40, 3) := by decide +kernel
theorem dX6_init_61 : decode cX6_init 61 = .ok (.putfield 43, 3) := by decide +kernel
theorem dX6_init_64 : decode cX6_init 64 = .ok (.aload_n 0, 1) := by decide +kernel
theorem dX6_init_65 : decode cX6_init 65 = .ok (.bipush 16, 2) := by decide +kernel
theorem dX6_init_67 : decode cX6_init 67 = .ok (.newarray .long, 2) := by decide +kernel
theorem dX6_init_69 : decode cX6_init 69 = .ok (.putfield 47, 3) := by decide +kernel
theorem dX6_init_72 : decode cX6_init 72 = .ok (.aload_n 0, 1) := by decide +kernel
theorem dX6_init_73 : decode cX6_init 73 = .ok (.bipush 16, 2) := by decide +kernel
theorem dX6_init_75 : decode cX6_init 75 = .ok (.newarray .boolean, 2) := by decide +kernel
theorem dX6_init_77 : decode cX6_init 77 = .ok (.putfield 51, 3) := by decide +kernel
theorem dX6_init_80 : decode cX6_init 80 = .ok (.aload_n 0, 1) := by decide +kernel
theorem dX6_init_81 : decode cX6_init 81 = .ok (.bipush 16, 2) := by decide +kernel
theorem dX6_init_83 : decode cX6_init 83 = .ok (.newarray .int, 2) := by decide +kernel
theorem dX6_init_85 : decode cX6_init 85 = .ok (.putfield 55, 3) := by decide +kernel
theorem dX6_init_88 : decode cX6_init 88 = .ok (.aload_n 0, 1) := by decide +kernel
theorem dX6_init_89 : decode cX6_init 89 = .ok (.bipush 8, 2) := by decide +kernel
theorem dX6_init_91 : decode cX6_init 91 = .ok (.newarray .int, 2) := by decide +kernel
theorem dX6_init_93 : decode cX6_init 93 = .ok (.putfield 59, 3) := by decide +kernel
theorem dX6_init_96 : decode cX6_init 96 = .ok (.aload_n 0, 1) := by decide +kernel
theorem dX6_init_97 : decode cX6_init 97 = .ok (.bipush 8, 2) := by decide +kernel
theorem dX6_init_99 : decode cX6_init 99 = .ok (.newarray .int, 2) := by decide +kernel
theorem dX6_init_101 : decode cX6_init 101 = .ok (.putfield 62, 3) := by decide +kernel
theorem dX6_init_104 : decode cX6_init 104 = .ok (.aload_n 0, 1) := by decide +kernel
theorem dX6_init_105 : decode cX6_init 105 = .ok (.new 38, 3) := by decide +kernel
theorem dX6_init_108 : decode cX6_init 108 = .ok (.dup, 1) := by decide +kernel
theorem dX6_init_109 : decode cX6_init 109 = .ok (.bipush 7, 2) := by decide +kernel
theorem dX6_init_111 : decode cX6_init 111 = .ok (.sipush 400, 3) := by decide +kernel
theorem dX6_init_114 : decode cX6_init 114 = .ok (.invokespecial 40, 3) := by decide +kernel
theorem dX6_init_117 : decode cX6_init 117 = .ok (.putfield 65, 3) := by decide +kernel
theorem dX6_init_120 : decode cX6_init 120 = .ok (.aload_n 0, 1) := by decide +kernel
theorem dX6_init_121 : decode cX6_init 121 = .ok (.new 38, 3) := by decide +kernel
theorem dX6_init_124 : decode cX6_init 124 = .ok (.dup, 1) := by decide +kernel
theorem dX6_init_125 : decode cX6_init 125 = .ok (.bipush 8, 2) := by decide +kernel
theorem dX6_init_127 : decode cX6_init 127 = .ok (.sipush 4000, 3) := by decide +kernel
theorem dX6_init_130 : decode cX6_init 130 = .ok (.invokespecial 40, 3) := by decide +kernel
theorem dX6_init_133 : decode cX6_init 133 = .ok (.putfield 68, 3) := by decide +kernel
theorem dX6_init_136 : decode cX6_init 136 = .ok (.aload_n 0, 1) := by decide +kernel
theorem dX6_init_137 : decode cX6_init 137 = .ok (.new 38, 3) := by decide +kernel
theorem dX6_init_140 : decode cX6_init 140 = .ok (.dup, 1) := by decide +kernel
theorem dX6_init_141 : decode cX6_init 141 = .ok (.iconst 1, 1) := by decide +kernel
theorem dX6_init_142 : decode cX6_init 142 = .ok (.sipush 2000, 3) := by decide +kernel
theorem dX6_init_145 : decode cX6_init 145 = .ok (.invokespecial 40, 3) := by decide +kernel
theorem dX6_init_148 : decode cX6_init 148 = .ok (.putfield 71, 3) := by decide +kernel
theorem dX6_init_151 : decode cX6_init 151 = .ok (.aload_n 0, 1) := by decide +kernel
theorem dX6_init_152 : decode cX6_init 152 = .ok (.new 74, 3) := by decide +kernel
theorem dX6_init_155 : decode cX6_init 155 = .ok (.dup, 1) := by decide +kernel
theorem dX6_init_156 : decode cX6_init 156 = .ok (.invokespecial 76, 3) := by decide +kernel
theorem dX6_init_159 : decode cX6_init 159 = .ok (.putfield 77, 3) := by decide +kernel
theorem dX6_init_162 : decode cX6_init 162 = .ok (.aload_n 0, 1) := by decide +kernel
theorem dX6_init_163 : decode cX6_init 163 = .ok (.getfield 55, 3) := by decide +kernel
theorem dX6_init_166 : decode cX6_init 166 = .ok (.iconst (-1), 1) := by decide +kernel
theorem dX6_init_167 : decode cX6_init 167 = .ok (.invokestatic 81, 3) := by decide +kernel
