set_option maxRecDepth 20000 in
theorem ggX7_next_X7_worthOf : GoodIn wsX7_next wsX7_worthOf := goodIn_r _ [4, 5] (by decide +kernel) (by decide +kernel)
set_option maxRecDepth 20000 in
theorem gX7_next_X7_worthOf : GoodIn wsX7_next (va_wsS RX7 341 yX7_worthOf wsX7_worthOf) := goodIn_app (goodIn_of _ (by decide +kernel)) ggX7_next_X7_worthOf
theorem dX7_next_0 : decode cX7_next 0 = .ok (.iload_n 0, 1) := by decide +kernel
theorem dX7_next_1 : decode cX7_next 1 = .ok (.iconst 1, 1) := by decide +kernel
theorem dX7_next_2 : decode cX7_next 2 = .ok (.iadd, 1) := by decide +kernel
theorem dX7_next_3 : decode cX7_next 3 = .ok (.invokestatic 341, 3) := by decide +kernel
theorem dX7_next_6 : decode cX7_next 6 = .ok (.iload_n 0, 1) := by decide +kernel
theorem dX7_next_7 : decode cX7_next 7 = .ok (.invokestatic 341, 3) := by decide +kernel
theorem dX7_next_10 : decode cX7_next 10 = .ok (.idiv, 1) := by decide +kernel
theorem dX7_next_11 : decode cX7_next 11 = .ok (.ireturn, 1) := by decide +kernel
set_option maxRecDepth 20000 in
theorem ggX7_lies_X7_worthOf : GoodIn wsX7_lies wsX7_worthOf := goodIn_r _ [5, 6] (by decide +kernel) (by decide +kernel)
set_option maxRecDepth 20000 in
theorem gX7_lies_X7_worthOf : GoodIn wsX7_lies (va_wsS RX7 341 yX7_worthOf wsX7_worthOf) := goodIn_app (goodIn_of _ (by decide +kernel)) ggX7_lies_X7_worthOf
theorem dX7_lies_0 : decode cX7_lies 0 = .ok (.lconst 0, 1) := by decide +kernel
theorem dX7_lies_1 : decode cX7_lies 1 = .ok (.lstore_n 1, 1) := by decide +kernel
theorem dX7_lies_2 : decode cX7_lies 2 = .ok (.iconst 0, 1) := by decide +kernel
theorem dX7_lies_3 : decode cX7_lies 3 = .ok (.istore_n 3, 1) := by decide +kernel
theorem dX7_lies_4 : decode cX7_lies 4 = .ok (.iload_n 3, 1) := by decide +kernel
theorem dX7_lies_5 : decode cX7_lies 5 = .ok (.bipush 6, 2) := by decide +kernel
theorem dX7_lies_7 : decode cX7_lies 7 = .ok (.if_icmp .ge 25, 3) := by decide +kernel
theorem dX7_lies_10 : decode cX7_lies 10 = .ok (.lload_n 1, 1) := by decide +kernel
theorem dX7_lies_11 : decode cX7_lies 11 = .ok (.aload_n 0, 1) := by decide +kernel
theorem dX7_lies_12 : decode cX7_lies 12 = .ok (.getfield 118, 3) := by decide +kernel
theorem dX7_lies_15 : decode cX7_lies 15 = .ok (.iload_n 3, 1) := by decide +kernel
theorem dX7_lies_16 : decode cX7_lies 16 = .ok (.iaload, 1) := by decide +kernel
theorem dX7_lies_17 : decode cX7_lies 17 = .ok (.i2l, 1) := by decide +kernel
theorem dX7_lies_18 : decode cX7_lies 18 = .ok (.iload_n 3, 1) := by decide +kernel
theorem dX7_lies_19 : decode cX7_lies 19 = .ok (.invokestatic 341, 3) := by decide +kernel
theorem dX7_lies_22 : decode cX7_lies 22 = .ok (.i2l, 1) := by decide +kernel
theorem dX7_lies_23 : decode cX7_lies 23 = .ok (.lmul, 1) := by decide +kernel
theorem dX7_lies_24 : decode cX7_lies 24 = .ok (.ladd, 1) := by decide +kernel
theorem dX7_lies_25 : decode cX7_lies 25 = .ok (.lstore_n 1, 1) := by decide +kernel
theorem dX7_lies_26 : decode cX7_lies 26 = .ok (.iinc 3 1, 3) := by decide +kernel
theorem dX7_lies_29 : decode cX7_lies 29 = .ok (.goto (-25), 3) := by decide +kernel
theorem dX7_lies_32 : decode cX7_lies 32 = .ok (.lload_n 1, 1) := by decide +kernel
theorem dX7_lies_33 : decode cX7_lies 33 = .ok (.lreturn, 1) := by decide +kernel
set_option maxRecDepth 20000 in
theorem ggX7_lay_X7_in : GoodIn wsX7_lay wsX7_in := goodIn_r _ [6] (by decide +kernel) (by decide +kernel)
set_option maxRecDepth 20000 in
theorem gX7_lay_X7_in : GoodIn wsX7_lay (va_wsS RX7 132 yX7_in wsX7_in) := goodIn_app (goodIn_of _ (by decide +kernel)) ggX7_lay_X7_in
set_option maxRecDepth 20000 in
theorem ggX7_lay_X7_notch : GoodIn wsX7_lay wsX7_notch := goodIn_r _ [9, 10, 11, 12, 5, 13] (by decide +kernel) (by decide +kernel)
set_option maxRecDepth 20000 in
theorem gX7_lay_X7_notch : GoodIn wsX7_lay (va_wsS RX7 344 yX7_notch wsX7_notch) := goodIn_app (goodIn_of _ (by decide +kernel)) ggX7_lay_X7_notch
set_option maxRecDepth 20000 in
theorem ggX7_lay_X7_next : GoodIn wsX7_lay wsX7_next := goodIn_r _ [16, 11, 12, 5, 13, 10] (by decide +kernel) (by decide +kernel)
set_option maxRecDepth 20000 in
theorem gX7_lay_X7_next : GoodIn wsX7_lay (va_wsS RX7 348 yX7_next wsX7_next) := goodIn_app (goodIn_of _ (by decide +kernel)) ggX7_lay_X7_next
theorem dX7_lay_0 : decode cX7_lay 0 = .ok (.iload_n 1, 1) := by decide +kernel
theorem dX7_lay_1 : decode cX7_lay 1 = .ok (.iconst 1, 1) := by decide +kernel
theorem dX7_lay_2 : decode cX7_lay 2 = .ok (.ldc_w 284, 3) := by decide +kernel
theorem dX7_lay_5 : decode cX7_lay 5 = .ok (.invokestatic 132, 3) := by decide +kernel
theorem dX7_lay_8 : decode cX7_lay 8 = .ok (.ifCond .ne 5, 3) := by decide +kernel
theorem dX7_lay_11 : decode cX7_lay 11 = .ok (.iconst (-1), 1) := by decide +kernel
theorem dX7_lay_12 : decode cX7_lay 12 = .ok (.ireturn, 1) := by decide +kernel
theorem dX7_lay_13 : decode cX7_lay 13 = .ok (.iconst 0, 1) := by decide +kernel
theorem dX7_lay_14 : decode cX7_lay 14 = .ok (.istore_n 2, 1) := by decide +kernel
theorem dX7_lay_15 : decode cX7_lay 15 = .ok (.iload_n 2, 1) := by decide +kernel
theorem dX7_lay_16 : decode cX7_lay 16 = .ok (.bipush 6, 2) := by decide +kernel
theorem dX7_lay_18 : decode cX7_lay 18 = .ok (.if_icmp .ge 23, 3) := by decide +kernel
theorem dX7_lay_21 : decode cX7_lay 21 = .ok (.aload_n 0, 1) := by decide +kernel
theorem dX7_lay_22 : decode cX7_lay 22 = .ok (.getfield 118, 3) := by decide +kernel
theorem dX7_lay_25 : decode cX7_lay 25 = .ok (.iload_n 2, 1) := by decide +kernel
theorem dX7_lay_26 : decode cX7_lay 26 = .ok (.dup2, 1) := by decide +kernel
theorem dX7_lay_27 : decode cX7_lay 27 = .ok (.iaload, 1) := by decide +kernel
theorem dX7_lay_28 : decode cX7_lay 28 = .ok (.iload_n 1, 1) := by decide +kernel
theorem dX7_lay_29 : decode cX7_lay 29 = .ok (.iload_n 2, 1) := by decide +kernel
theorem dX7_lay_30 : decode cX7_lay 30 = .ok (.invokestatic 344, 3) := by decide +kernel
theorem dX7_lay_33 : decode cX7_lay 33 = .ok (.iadd, 1) := by decide +kernel
theorem dX7_lay_34 : decode cX7_lay 34 = .ok (.iastore, 1) := by decide +kernel
theorem dX7_lay_35 : decode cX7_lay 35 = .ok (.iinc 2 1, 3) := by decide +kernel
theorem dX7_lay_38 : decode cX7_lay 38 = .ok (.goto (-23), 3) := by decide +kernel
theorem dX7_lay_41 : decode cX7_lay 41 = .ok (.iconst 0, 1) := by decide +kernel
theorem dX7_lay_42 : decode cX7_lay 42 = .ok (.istore_n 2, 1) := by decide +kernel
theorem dX7_lay_43 : decode cX7_lay 43 = .ok (.iconst 0, 1) := by decide +kernel
theorem dX7_lay_44 : decode cX7_lay 44 = .ok (.istore_n 3, 1) := by decide +kernel
theorem dX7_lay_45 : decode cX7_lay 45 = .ok (.iload_n 3, 1) := by decide +kernel
theorem dX7_lay_46 : decode cX7_lay 46 = .ok (.iconst 5, 1) := by decide +kernel
theorem dX7_lay_47 : decode cX7_lay 47 = .ok (.if_icmp .ge 55, 3) := by decide +kernel
theorem dX7_lay_50 : decode cX7_lay 50 = .ok (.aload_n 0, 1) := by decide +kernel
theorem dX7_lay_51 : decode cX7_lay 51 = .ok (.getfield 118, 3) := by decide +kernel
theorem dX7_lay_54 : decode cX7_lay 54 = .ok (.iload_n 3, 1) := by decide +kernel
theorem dX7_lay_55 : decode cX7_lay 55 = .ok (.iaload, 1) := by decide +kernel
theorem dX7_lay_56 : decode cX7_lay 56 = .ok (.iload_n 3, 1) := by decide +kernel
theorem dX7_lay_57 : decode cX7_lay 57 = .ok (.invokestatic 348, 3) := by decide +kernel
theorem dX7_lay_60 : decode cX7_lay 60 = .ok (.if_icmp .ge 9, 3) := by decide +kernel
theorem dX7_lay_63 : decode cX7_lay 63 = .ok (.iinc 3 1, 3) := by decide +kernel
theorem dX7_lay_66 : decode cX7_lay 66 = .ok (.goto (-21), 3) := by decide +kernel
theorem dX7_lay_69 : decode cX7_lay 69 = .ok (.aload_n 0, 1) := by decide +kernel
theorem dX7_lay_70 : decode cX7_lay 70 = .ok (.getfield 118, 3) := by decide +kernel
theorem dX7_lay_73 : decode cX7_lay 73 = .ok (.iload_n 3, 1) := by decide +kernel
theorem dX7_lay_74 : decode cX7_lay 74 = .ok (.dup2, 1) := by decide +kernel
theorem dX7_lay_75 : decode cX7_lay 75 = .ok (.iaload, 1) := by decide +kernel
theorem dX7_lay_76 : decode cX7_lay 76 = .ok (.iload_n 3, 1) := by decide +kernel
theorem dX7_lay_77 : decode cX7_lay 77 = .ok (.invokestatic 348, 3) := by decide +kernel
theorem dX7_lay_80 : decode cX7_lay 80 = .ok (.isub, 1) := by decide +kernel
theorem dX7_lay_81 : decode cX7_lay 81 = .ok (.iastore, 1) := by decide +kernel
theorem dX7_lay_82 : decode cX7_lay 82 = .ok (.aload_n 0, 1) := by decide +kernel
theorem dX7_lay_83 : decode cX7_lay 83 = .ok (.getfield 118, 3) := by decide +kernel
theorem dX7_lay_86 : decode cX7_lay 86 = .ok (.iload_n 3, 1) := by decide +kernel
theorem dX7_lay_87 : decode cX7_lay 87 = .ok (.iconst 1, 1) := by decide +kernel
theorem dX7_lay_88 : decode cX7_lay 88 = .ok (.iadd, 1) := by decide +kernel
theorem dX7_lay_89 : decode cX7_lay 89 = .ok (.dup2, 1) := by decide +kernel
theorem dX7_lay_90 : decode cX7_lay 90 = .ok (.iaload, 1) := by decide +kernel
theorem dX7_lay_91 : decode cX7_lay 91 = .ok (.iconst 1, 1) := by decide +kernel
theorem dX7_lay_92 : decode cX7_lay 92 = .ok (.iadd, 1) := by decide +kernel
theorem dX7_lay_93 : decode cX7_lay 93 = .ok (.iastore, 1) := by decide +kernel
theorem dX7_lay_94 : decode cX7_lay 94 = .ok (.iinc 2 1, 3) := by decide +kernel
theorem dX7_lay_97 : decode cX7_lay 97 = .ok (.iconst 0, 1) := by decide +kernel
theorem dX7_lay_98 : decode cX7_lay 98 = .ok (.istore_n 3, 1) := by decide +kernel
theorem dX7_lay_99 : decode cX7_lay 99 = .ok (.goto (-54), 3) := by decide +kernel
theorem dX7_lay_102 : decode cX7_lay 102 = .ok (.iload_n 2, 1) := by decide +kernel
theorem dX7_lay_103 : decode cX7_lay 103 = .ok (.ireturn, 1) := by decide +kernel
set_option maxRecDepth 20000 in
theorem ggX7_take_X7_in : GoodIn wsX7_take wsX7_in := goodIn_r _ [6] (by decide +kernel) (by decide +kernel)
set_option maxRecDepth 20000 in
theorem gX7_take_X7_in : GoodIn wsX7_take (va_wsS RX7 132 yX7_in wsX7_in) := goodIn_app (goodIn_of _ (by decide +kernel)) ggX7_take_X7_in
set_option maxRecDepth 20000 in
theorem ggX7_take_X7_lies : GoodIn wsX7_take wsX7_lies := goodIn_r _ [10, 2, 11, 12, 5, 13, 14, 21, 22, 23, 24, 25, 26, 27, 28, 29, 30, 31, 32, 33, 34, 35, 36, 37, 38, 39, 40, 41, 42, 43, 44, 45, 46, 47, 48, 49, 50, 51, 52, 53, 54, 55, 56, 57, 58, 59, 60, 61, 62, 63, 64, 65, 66, 67, 68, 69, 70, 71, 72, 73, 74, 75, 76] (by decide +kernel) (by decide +kernel)
set_option maxRecDepth 20000 in
theorem gX7_take_X7_lies : GoodIn wsX7_take (wsV RX7 351 RX7 yX7_lies wsX7_lies) := goodIn_app (goodIn_of _ (by decide +kernel)) ggX7_take_X7_lies
set_option maxRecDepth 20000 in
theorem ggX7_take_X7_notch : GoodIn wsX7_take wsX7_notch := goodIn_r _ [17, 14, 11, 12, 5, 13] (by decide +kernel) (by decide +kernel)
set_option maxRecDepth 20000 in
theorem gX7_take_X7_notch : GoodIn wsX7_take (va_wsS RX7 344 yX7_notch wsX7_notch) := goodIn_app (goodIn_of _ (by decide +kernel)) ggX7_take_X7_notch
set_option maxRecDepth 20000 in
theorem ggX7_take_X7_next : GoodIn wsX7_take wsX7_next := goodIn_r _ [20, 11, 12, 5, 13, 14] (by decide +kernel) (by decide +kernel)
set_option maxRecDepth 20000 in
theorem gX7_take_X7_next : GoodIn wsX7_take (va_wsS RX7 348 yX7_next wsX7_next) := goodIn_app (goodIn_of _ (by decide +kernel)) ggX7_take_X7_next
theorem dX7_take_0 : decode cX7_take 0 = .ok (.iload_n 1, 1) := by decide +kernel
theorem dX7_take_1 : decode cX7_take 1 = .ok (.iconst 1, 1) := by decide +kernel
theorem dX7_take_2 : decode cX7_take 2 = .ok (.ldc_w 284, 3) := by decide +kernel
theorem dX7_take_5 : decode cX7_take 5 = .ok (.invokestatic 132, 3) := by decide +kernel
theorem dX7_take_8 : decode cX7_take 8 = .ok (.ifCond .ne 5, 3) := by decide +kernel
theorem dX7_take_11 : decode cX7_take 11 = .ok (.iconst (-1), 1) := by decide +kernel
theorem dX7_take_12 : decode cX7_take 12 = .ok (.ireturn, 1) := by decide +kernel
theorem dX7_take_13 : decode cX7_take 13 = .ok (.iload_n 1, 1) := by decide +kernel
theorem dX7_take_14 : decode cX7_take 14 = .ok (.i2l, 1) := by decide +kernel
theorem dX7_take_15 : decode cX7_take 15 = .ok (.aload_n 0, 1) := by decide +kernel
theorem dX7_take_16 : decode cX7_take 16 = .ok (.invokevirtual 351, 3) := by decide +kernel
theorem dX7_take_19 : decode cX7_take 19 = .ok (.lcmp, 1) := by decide +kernel
theorem dX7_take_20 : decode cX7_take 20 = .ok (.ifCond .le 6, 3) := by decide +kernel
theorem dX7_take_23 : decode cX7_take 23 = .ok (.bipush (-2), 2) := by decide +kernel
theorem dX7_take_25 : decode cX7_take 25 = .ok (.ireturn, 1) := by decide +kernel
theorem dX7_take_26 : decode cX7_take 26 = .ok (.iconst 0, 1) := by decide +kernel
theorem dX7_take_27 : decode cX7_take 27 = .ok (.istore_n 2, 1) := by decide +kernel
theorem dX7_take_28 : decode cX7_take 28 = .ok (.iconst 0, 1) := by decide +kernel
theorem dX7_take_29 : decode cX7_take 29 = .ok (.istore_n 3, 1) := by decide +kernel
theorem dX7_take_30 : decode cX7_take 30 = .ok (.iload_n 3, 1) := by decide +kernel
theorem dX7_take_31 : decode cX7_take 31 = .ok (.bipush 6, 2) := by decide +kernel
theorem dX7_take_33 : decode cX7_take 33 = .ok (.if_icmp .ge 103, 3) := by decide +kernel
theorem dX7_take_36 : decode cX7_take 36 = .ok (.iload_n 1, 1) := by decide +kernel
theorem dX7_take_37 : decode cX7_take 37 = .ok (.iload_n 3, 1) := by decide +kernel
theorem dX7_take_38 : decode cX7_take 38 = .ok (.invokestatic 344, 3) := by decide +kernel
theorem dX7_take_41 : decode cX7_take 41 = .ok (.istore 4, 2) := by decide +kernel
theorem dX7_take_43 : decode cX7_take 43 = .ok (.aload_n 0, 1) := by decide +kernel
theorem dX7_take_44 : decode cX7_take 44 = .ok (.getfield 118, 3) := by decide +kernel
theorem dX7_take_47 : decode cX7_take 47 = .ok (.iload_n 3, 1) := by decide +kernel
theorem dX7_take_48 : decode cX7_take 48 = .ok (.iaload, 1) := by decide +kernel
theorem dX7_take_49 : decode cX7_take 49 = .ok (.iload 4, 2) := by decide +kernel
theorem dX7_take_51 : decode cX7_take 51 = .ok (.if_icmp .ge 68, 3) := by decide +kernel
theorem dX7_take_54 : decode cX7_take 54 = .ok (.iload_n 3, 1) := by decide +kernel
theorem dX7_take_55 : decode cX7_take 55 = .ok (.iconst 1, 1) := by decide +kernel
theorem dX7_take_56 : decode cX7_take 56 = .ok (.iadd, 1) := by decide +kernel
theorem dX7_take_57 : decode cX7_take 57 = .ok (.istore 5, 2) := by decide +kernel
theorem dX7_take_59 : decode cX7_take 59 = .ok (.aload_n 0, 1) := by decide +kernel
theorem dX7_take_60 : decode cX7_take 60 = .ok (.getfield 118, 3) := by decide +kernel
theorem dX7_take_63 : decode cX7_take 63 = .ok (.iload 5, 2) := by decide +kernel
theorem dX7_take_65 : decode cX7_take 65 = .ok (.iaload, 1) := by decide +kernel
theorem dX7_take_66 : decode cX7_take 66 = .ok (.ifCond .ne 9, 3) := by decide +kernel
theorem dX7_take_69 : decode cX7_take 69 = .ok (.iinc 5 1, 3) := by decide +kernel
theorem dX7_take_72 : decode cX7_take 72 = .ok (.goto (-13), 3) := by decide +kernel
theorem dX7_take_75 : decode cX7_take 75 = .ok (.iload 5, 2) := by decide +kernel
theorem dX7_take_77 : decode cX7_take 77 = .ok (.iload_n 3, 1) := by decide +kernel
theorem dX7_take_78 : decode cX7_take 78 = .ok (.if_icmp .le 38, 3) := by decide +kernel
theorem dX7_take_81 : decode cX7_take 81 = .ok (.aload_n 0, 1) := by decide +kernel
theorem dX7_take_82 : decode cX7_take 82 = .ok (.getfield 118, 3) := by decide +kernel
theorem dX7_take_85 : decode cX7_take 85 = .ok (.iload 5, 2) := by decide +kernel
theorem dX7_take_87 : decode cX7_take 87 = .ok (.dup2, 1) := by decide +kernel
theorem dX7_take_88 : decode cX7_take 88 = .ok (.iaload, 1) := by decide +kernel
theorem dX7_take_89 : decode cX7_take 89 = .ok (.iconst 1, 1) := by decide +kernel
theorem dX7_take_90 : decode cX7_take 90 = .ok (.isub, 1) := by decide +kernel
theorem dX7_take_91 : decode cX7_take 91 = .ok (.iastore, 1) := by decide +kernel
theorem dX7_take_92 : decode cX7_take 92 = .ok (.iinc 5 (-1), 3) := by decide +kernel
theorem dX7_take_95 : decode cX7_take 95 = .ok (.aload_n 0, 1) := by decide +kernel
theorem dX7_take_96 : decode cX7_take 96 = .ok (.getfield 118, 3) := by decide +kernel
theorem dX7_take_99 : decode cX7_take 99 = .ok (.iload 5, 2) := by decide +kernel
theorem dX7_take_101 : decode cX7_take 101 = .ok (.dup2, 1) := by decide +kernel
theorem dX7_take_102 : decode cX7_take 102 = .ok (.iaload, 1) := by decide +kernel
theorem dX7_take_103 : decode cX7_take 103 = .ok (.iload 5, 2) := by decide +kernel
theorem dX7_take_105 : decode cX7_take 105 = .ok (.invokestatic 348, 3) := by decide +kernel
theorem dX7_take_108 : decode cX7_take 108 = .ok (.iadd, 1) := by decide +kernel
theorem dX7_take_109 : decode cX7_take 109 = .ok (.iastore, 1) := by decide +kernel
theorem dX7_take_110 : decode cX7_take 110 = .ok (.iinc 2 1, 3) := by decide +kernel
theorem dX7_take_113 : decode cX7_take 113 = .ok (.goto (-38), 3) := by decide +kernel
theorem dX7_take_116 : decode cX7_take 116 = .ok (.goto (-73), 3) := by decide +kernel
theorem dX7_take_119 : decode cX7_take 119 = .ok (.aload_n 0, 1) := by decide +kernel
theorem dX7_take_120 : decode cX7_take 120 = .ok (.getfield 118, 3) := by decide +kernel
theorem dX7_take_123 : decode cX7_take 123 = .ok (.iload_n 3, 1) := by decide +kernel
theorem dX7_take_124 : decode cX7_take 124 = .ok (.dup2, 1) := by decide +kernel
theorem dX7_take_125 : decode cX7_take 125 = .ok (.iaload, 1) := by decide +kernel
theorem dX7_take_126 : decode cX7_take 126 = .ok (.iload 4, 2) := by decide +kernel
theorem dX7_take_128 : decode cX7_take 128 = .ok (.isub, 1) := by decide +kernel
theorem dX7_take_129 : decode cX7_take 129 = .ok (.iastore, 1) := by decide +kernel
theorem dX7_take_130 : decode cX7_take 130 = .ok (.iinc 3 1, 3) := by decide +kernel
theorem dX7_take_133 : decode cX7_take 133 = .ok (.goto (-103), 3) := by decide +kernel
theorem dX7_take_136 : decode cX7_take 136 = .ok (.iload_n 2, 1) := by decide +kernel
theorem dX7_take_137 : decode cX7_take 137 = .ok (.ireturn, 1) := by decide +kernel
set_option maxRecDepth 20000 in
theorem ggX7_cloth_X7_in : GoodIn wsX7_cloth wsX7_in := goodIn_r _ [5] (by decide +kernel) (by decide +kernel)
set_option maxRecDepth 20000 in
theorem gX7_cloth_X7_in : GoodIn wsX7_cloth (va_wsS RX7 132 yX7_in wsX7_in) := goodIn_app (goodIn_of _ (by decide +kernel)) ggX7_cloth_X7_in
theorem dX7_cloth_0 : decode cX7_cloth 0 = .ok (.iload_n 1, 1) := by decide +kernel
theorem dX7_cloth_1 : decode cX7_cloth 1 = .ok (.iconst 0, 1) := by decide +kernel
theorem dX7_cloth_2 : decode cX7_cloth 2 = .ok (.iconst 5, 1) := by decide +kernel
theorem dX7_cloth_3 : decode cX7_cloth 3 = .ok (.invokestatic 132, 3) := by decide +kernel
theorem dX7_cloth_6 : decode cX7_cloth 6 = .ok (.ifCond .eq 12, 3) := by decide +kernel
theorem dX7_cloth_9 : decode cX7_cloth 9 = .ok (.aload_n 0, 1) := by decide +kernel
theorem dX7_cloth_10 : decode cX7_cloth 10 = .ok (.getfield 118, 3) := by decide +kernel
theorem dX7_cloth_13 : decode cX7_cloth 13 = .ok (.iload_n 1, 1) := by decide +kernel
theorem dX7_cloth_14 : decode cX7_cloth 14 = .ok (.iaload, 1) := by decide +kernel
theorem dX7_cloth_15 : decode cX7_cloth 15 = .ok (.goto 4, 3) := by decide +kernel
theorem dX7_cloth_18 : decode cX7_cloth 18 = .ok (.iconst (-1), 1) := by decide +kernel
theorem dX7_cloth_19 : decode cX7_cloth 19 = .ok (.ireturn, 1) := by decide +kernel
set_option maxRecDepth 20000 in
theorem ggX7_sum_X7_lies : GoodIn wsX7_sum wsX7_lies := goodIn_r _ [13, 14, 15, 16, 12, 17, 18, 19, 20, 21, 22, 23, 24, 25, 26, 27, 28, 29, 30, 31, 32, 33, 34, 35, 36, 37, 38, 39, 40, 41, 42, 43, 44, 45, 46, 47, 48, 49, 50, 51, 52, 53, 54, 55, 56, 57, 58, 59, 60, 61, 62, 63, 64, 65, 66, 67, 68, 69, 70, 71, 72, 73, 74] (by decide +kernel) (by decide +kernel)
set_option maxRecDepth 20000 in
theorem gX7_sum_X7_lies : GoodIn wsX7_sum (wsV RX7 351 RX7 yX7_lies wsX7_lies) := goodIn_app (goodIn_of _ (by decide +kernel)) ggX7_sum_X7_lies
theorem dX7_sum_0 : decode cX7_sum 0 = .ok (.lconst 0, 1) := by decide +kernel
theorem dX7_sum_1 : decode cX7_sum 1 = .ok (.lstore_n 2, 1) := by decide +kernel
theorem dX7_sum_2 : decode cX7_sum 2 = .ok (.iload_n 1, 1) := by decide +kernel
theorem dX7_sum_3 : decode cX7_sum 3 = .ok (.tableswitch 177 0 6 #[41, 46, 51, 79, 110, 141, 172], 41) := by decide +kernel
theorem dX7_sum_44 : decode cX7_sum 44 = .ok (.aload_n 0, 1) := by decide +kernel
theorem dX7_sum_45 : decode cX7_sum 45 = .ok (.invokevirtual 351, 3) := by decide +kernel
theorem dX7_sum_48 : decode cX7_sum 48 = .ok (.lreturn, 1) := by decide +kernel
theorem dX7_sum_49 : decode cX7_sum 49 = .ok (.aload_n 0, 1) := by decide +kernel
theorem dX7_sum_50 : decode cX7_sum 50 = .ok (.getfield 335, 3) := by decide +kernel
theorem dX7_sum_53 : decode cX7_sum 53 = .ok (.lreturn, 1) := by decide +kernel
theorem dX7_sum_54 : decode cX7_sum 54 = .ok (.iconst 0, 1) := by decide +kernel
theorem dX7_sum_55 : decode cX7_sum 55 = .ok (.istore 4, 2) := by decide +kernel
theorem dX7_sum_57 : decode cX7_sum 57 = .ok (.iload 4, 2) := by decide +kernel
theorem dX7_sum_59 : decode cX7_sum 59 = .ok (.bipush 16, 2) := by decide +kernel
theorem dX7_sum_61 : decode cX7_sum 61 = .ok (.if_icmp .ge 19, 3) := by decide +kernel
theorem dX7_sum_64 : decode cX7_sum 64 = .ok (.lload_n 2, 1) := by decide +kernel
theorem dX7_sum_65 : decode cX7_sum 65 = .ok (.aload_n 0, 1) := by decide +kernel
theorem dX7_sum_66 : decode cX7_sum 66 = .ok (.getfield 71, 3) := by decide +kernel
theorem dX7_sum_69 : decode cX7_sum 69 = .ok (.iload 4, 2) := by decide +kernel
theorem dX7_sum_71 : decode cX7_sum 71 = .ok (.laload, 1) := by decide +kernel
theorem dX7_sum_72 : decode cX7_sum 72 = .ok (.ladd, 1) := by decide +kernel
theorem dX7_sum_73 : decode cX7_sum 73 = .ok (.lstore_n 2, 1) := by decide +kernel
theorem dX7_sum_74 : decode cX7_sum 74 = .ok (.iinc 4 1, 3) := by decide +kernel
theorem dX7_sum_77 : decode cX7_sum 77 = .ok (.goto (-20), 3) := by decide +kernel
theorem dX7_sum_80 : decode cX7_sum 80 = .ok (.lload_n 2, 1) := by decide +kernel
theorem dX7_sum_81 : decode cX7_sum 81 = .ok (.lreturn, 1) := by decide +kernel
theorem dX7_sum_82 : decode cX7_sum 82 = .ok (.iconst 0, 1) := by decide +kernel
theorem dX7_sum_83 : decode cX7_sum 83 = .ok (.istore 4, 2) := by decide +kernel
theorem dX7_sum_85 : decode cX7_sum 85 = .ok (.iload 4, 2) := by decide +kernel
theorem dX7_sum_87 : decode cX7_sum 87 = .ok (.aload_n 0, 1) := by decide +kernel
theorem dX7_sum_88 : decode cX7_sum 88 = .ok (.getfield 277, 3) := by decide +kernel
theorem dX7_sum_91 : decode cX7_sum 91 = .ok (.if_icmp .ge 20, 3) := by decide +kernel
theorem dX7_sum_94 : decode cX7_sum 94 = .ok (.lload_n 2, 1) := by decide +kernel
theorem dX7_sum_95 : decode cX7_sum 95 = .ok (.aload_n 0, 1) := by decide +kernel
theorem dX7_sum_96 : decode cX7_sum 96 = .ok (.getfield 59, 3) := by decide +kernel
theorem dX7_sum_99 : decode cX7_sum 99 = .ok (.iload 4, 2) := by decide +kernel
theorem dX7_sum_101 : decode cX7_sum 101 = .ok (.iaload, 1) := by decide +kernel
theorem dX7_sum_102 : decode cX7_sum 102 = .ok (.i2l, 1) := by decide +kernel
theorem dX7_sum_103 : decode cX7_sum 103 = .ok (.ladd, 1) := by decide +kernel
theorem dX7_sum_104 : decode cX7_sum 104 = .ok (.lstore_n 2, 1) := by decide +kernel
theorem dX7_sum_105 : decode cX7_sum 105 = .ok (.iinc 4 1, 3) := by decide +kernel
theorem dX7_sum_108 : decode cX7_sum 108 = .ok (.goto (-23), 3) := by decide +kernel
theorem dX7_sum_111 : decode cX7_sum 111 = .ok (.lload_n 2, 1) := by decide +kernel
theorem dX7_sum_112 : decode cX7_sum 112 = .ok (.lreturn, 1) := by decide +kernel
theorem dX7_sum_113 : decode cX7_sum 113 = .ok (.iconst 0, 1) := by decide +kernel
theorem dX7_sum_114 : decode cX7_sum 114 = .ok (.istore 4, 2) := by decide +kernel
theorem dX7_sum_116 : decode cX7_sum 116 = .ok (.iload 4, 2) := by decide +kernel
theorem dX7_sum_118 : decode cX7_sum 118 = .ok (.aload_n 0, 1) := by decide +kernel
theorem dX7_sum_119 : decode cX7_sum 119 = .ok (.getfield 277, 3) := by decide +kernel
theorem dX7_sum_122 : decode cX7_sum 122 = .ok (.if_icmp .ge 20, 3) := by decide +kernel
theorem dX7_sum_125 : decode cX7_sum 125 = .ok (.lload_n 2, 1) := by decide +kernel
theorem dX7_sum_126 : decode cX7_sum 126 = .ok (.aload_n 0, 1) := by decide +kernel
theorem dX7_sum_127 : decode cX7_sum 127 = .ok (.getfield 68, 3) := by decide +kernel
theorem dX7_sum_130 : decode cX7_sum 130 = .ok (.iload 4, 2) := by decide +kernel
theorem dX7_sum_132 : decode cX7_sum 132 = .ok (.iaload, 1) := by decide +kernel
theorem dX7_sum_133 : decode cX7_sum 133 = .ok (.i2l, 1) := by decide +kernel
theorem dX7_sum_134 : decode cX7_sum 134 = .ok (.ladd, 1) := by decide +kernel
theorem dX7_sum_135 : decode cX7_sum 135 = .ok (.lstore_n 2, 1) := by decide +kernel
theorem dX7_sum_136 : decode cX7_sum 136 = .ok (.iinc 4 1, 3) := by decide +kernel
theorem dX7_sum_139 : decode cX7_sum 139 = .ok (.goto (-23), 3) := by decide +kernel
theorem dX7_sum_142 : decode cX7_sum 142 = .ok (.lload_n 2, 1) := by decide +kernel
theorem dX7_sum_143 : decode cX7_sum 143 = .ok (.lreturn, 1) := by decide +kernel
theorem dX7_sum_144 : decode cX7_sum 144 = .ok (.iconst 0, 1) := by decide +kernel
theorem dX7_sum_145 : decode cX7_sum 145 = .ok (.istore 4, 2) := by decide +kernel
theorem dX7_sum_147 : decode cX7_sum 147 = .ok (.iload 4, 2) := by decide +kernel
theorem dX7_sum_149 : decode cX7_sum 149 = .ok (.aload_n 0, 1) := by decide +kernel
theorem dX7_sum_150 : decode cX7_sum 150 = .ok (.getfield 277, 3) := by decide +kernel
theorem dX7_sum_153 : decode cX7_sum 153 = .ok (.if_icmp .ge 20, 3) := by decide +kernel
theorem dX7_sum_156 : decode cX7_sum 156 = .ok (.lload_n 2, 1) := by decide +kernel
theorem dX7_sum_157 : decode cX7_sum 157 = .ok (.aload_n 0, 1) := by decide +kernel
theorem dX7_sum_158 : decode cX7_sum 158 = .ok (.getfield 56, 3) := by decide +kernel
theorem dX7_sum_161 : decode cX7_sum 161 = .ok (.iload 4, 2) := by decide +kernel
theorem dX7_sum_163 : decode cX7_sum 163 = .ok (.iaload, 1) := by decide +kernel
theorem dX7_sum_164 : decode cX7_sum 164 = .ok (.i2l, 1) := by decide +kernel
theorem dX7_sum_165 : decode cX7_sum 165 = .ok (.ladd, 1) := by decide +kernel
theorem dX7_sum_166 : decode cX7_sum 166 = .ok (.lstore_n 2, 1) := by decide +kernel
theorem dX7_sum_167 : decode cX7_sum 167 = .ok (.iinc 4 1, 3) := by decide +kernel
theorem dX7_sum_170 : decode cX7_sum 170 = .ok (.goto (-23), 3) := by decide +kernel
theorem dX7_sum_173 : decode cX7_sum 173 = .ok (.lload_n 2, 1) := by decide +kernel
theorem dX7_sum_174 : decode cX7_sum 174 = .ok (.lreturn, 1) := by decide +kernel
theorem dX7_sum_175 : decode cX7_sum 175 = .ok (.aload_n 0, 1) := by decide +kernel
theorem dX7_sum_176 : decode cX7_sum 176 = .ok (.getfield 325, 3) := by decide +kernel
theorem dX7_sum_179 : decode cX7_sum 179 = .ok (.lreturn, 1) := by decide +kernel
theorem dX7_sum_180 : decode cX7_sum 180 = .ok (.ldc2_w 338, 3) := by decide +kernel
theorem dX7_sum_183 : decode cX7_sum 183 = .ok (.lreturn, 1) := by decide +kernel
theorem dX7_count_0 : decode cX7_count 0 = .ok (.iload_n 1, 1) := by decide +kernel
theorem dX7_count_1 : decode cX7_count 1 = .ok (.tableswitch 69 0 5 #[39, 44, 49, 54, 59, 64], 39) := by decide +kernel
theorem dX7_count_40 : decode cX7_count 40 = .ok (.aload_n 0, 1) := by decide +kernel
theorem dX7_count_41 : decode cX7_count 41 = .ok (.getfield 277, 3) := by decide +kernel
theorem dX7_count_44 : decode cX7_count 44 = .ok (.ireturn, 1) := by decide +kernel
theorem dX7_count_45 : decode cX7_count 45 = .ok (.aload_n 0, 1) := by decide +kernel
theorem dX7_count_46 : decode cX7_count 46 = .ok (.getfield 319, 3) := by decide +kernel
theorem dX7_count_49 : decode cX7_count 49 = .ok (.ireturn, 1) := by decide +kernel
theorem dX7_count_50 : decode cX7_count 50 = .ok (.aload_n 0, 1) := by decide +kernel
theorem dX7_count_51 : decode cX7_count 51 = .ok (.getfield 322, 3) := by decide +kernel
theorem dX7_count_54 : decode cX7_count 54 = .ok (.ireturn, 1) := by decide +kernel
theorem dX7_count_55 : decode cX7_count 55 = .ok (.aload_n 0, 1) := by decide +kernel
theorem dX7_count_56 : decode cX7_count 56 = .ok (.getfield 220, 3) := by decide +kernel
theorem dX7_count_59 : decode cX7_count 59 = .ok (.ireturn, 1) := by decide +kernel
theorem dX7_count_60 : decode cX7_count 60 = .ok (.aload_n 0, 1) := by decide +kernel
theorem dX7_count_61 : decode cX7_count 61 = .ok (.getfield 267, 3) := by decide +kernel
theorem dX7_count_64 : decode cX7_count 64 = .ok (.ireturn, 1) := by decide +kernel
theorem dX7_count_65 : decode cX7_count 65 = .ok (.aload_n 0, 1) := by decide +kernel
theorem dX7_count_66 : decode cX7_count 66 = .ok (.getfield 125, 3) := by decide +kernel
theorem dX7_count_69 : decode cX7_count 69 = .ok (.ireturn, 1) := by decide +kernel
theorem dX7_count_70 : decode cX7_count 70 = .ok (.iconst (-1), 1) := by decide +kernel
theorem dX7_count_71 : decode cX7_count 71 = .ok (.ireturn, 1) := by decide +kernel
theorem dJ9_max_7cf53_0 : decode cJ9_max_7cf53 0 = .ok (.iload_n 0, 1) := by decide +kernel
theorem dJ9_max_7cf53_1 : decode cJ9_max_7cf53 1 = .ok (.iload_n 1, 1) := by decide +kernel
theorem dJ9_max_7cf53_2 : decode cJ9_max_7cf53 2 = .ok (.if_icmp .lt 7, 3) := by decide +kernel
theorem dJ9_max_7cf53_5 : decode cJ9_max_7cf53 5 = .ok (.iload_n 0, 1) := by decide +kernel
theorem dJ9_max_7cf53_6 : decode cJ9_max_7cf53 6 = .ok (.goto 4, 3) := by decide +kernel
theorem dJ9_max_7cf53_9 : decode cJ9_max_7cf53 9 = .ok (.iload_n 1, 1) := by decide +kernel
theorem dJ9_max_7cf53_10 : decode cJ9_max_7cf53 10 = .ok (.ireturn, 1) := by decide +kernel
theorem dJ9_min_7cf53_0 : decode cJ9_min_7cf53 0 = .ok (.iload_n 0, 1) := by decide +kernel
theorem dJ9_min_7cf53_1 : decode cJ9_min_7cf53 1 = .ok (.iload_n 1, 1) := by decide +kernel
theorem dJ9_min_7cf53_2 : decode cJ9_min_7cf53 2 = .ok (.if_icmp .gt 7, 3) := by decide +kernel
theorem dJ9_min_7cf53_5 : decode cJ9_min_7cf53 5 = .ok (.iload_n 0, 1) := by decide +kernel
theorem dJ9_min_7cf53_6 : decode cJ9_min_7cf53 6 = .ok (.goto 4, 3) := by decide +kernel
theorem dJ9_min_7cf53_9 : decode cJ9_min_7cf53 9 = .ok (.iload_n 1, 1) := by decide +kernel
theorem dJ9_min_7cf53_10 : decode cJ9_min_7cf53 10 = .ok (.ireturn, 1) := by decide +kernel
theorem dJ9_min_f86c9_0 : decode cJ9_min_f86c9 0 = .ok (.lload_n 0, 1) := by decide +kernel
theorem dJ9_min_f86c9_1 : decode cJ9_min_f86c9 1 = .ok (.lload_n 2, 1) := by decide +kernel
theorem dJ9_min_f86c9_2 : decode cJ9_min_f86c9 2 = .ok (.lcmp, 1) := by decide +kernel
theorem dJ9_min_f86c9_3 : decode cJ9_min_f86c9 3 = .ok (.ifCond .gt 7, 3) := by decide +kernel
theorem dJ9_min_f86c9_6 : decode cJ9_min_f86c9 6 = .ok (.lload_n 0, 1) := by decide +kernel
theorem dJ9_min_f86c9_7 : decode cJ9_min_f86c9 7 = .ok (.goto 4, 3) := by decide +kernel
theorem dJ9_min_f86c9_10 : decode cJ9_min_f86c9 10 = .ok (.lload_n 2, 1) := by decide +kernel
theorem dJ9_min_f86c9_11 : decode cJ9_min_f86c9 11 = .ok (.lreturn, 1) := by decide +kernel
set_option maxRecDepth 20000 in
theorem ggJ0_length_8abf5_J0_coder_7d493 : GoodIn wsJ0_length_8abf5 wsJ0_coder_7d493 := goodIn_r _ [6, 7, 8] (by decide +kernel) (by decide +kernel)
set_option maxRecDepth 20000 in
theorem gJ0_length_8abf5_J0_coder_7d493 : GoodIn wsJ0_length_8abf5 (wsV RJ0 335 RJ0 yJ0_coder_7d493 wsJ0_coder_7d493) := goodIn_app (goodIn_of _ (by decide +kernel)) ggJ0_length_8abf5_J0_coder_7d493
theorem dJ0_length_8abf5_0 : decode cJ0_length_8abf5 0 = .ok (.aload_n 0, 1) := by decide +kernel
theorem dJ0_length_8abf5_1 : decode cJ0_length_8abf5 1 = .ok (.getfield 9, 3) := by decide +kernel
theorem dJ0_length_8abf5_4 : decode cJ0_length_8abf5 4 = .ok (.arraylength, 1) := by decide +kernel
theorem dJ0_length_8abf5_5 : decode cJ0_length_8abf5 5 = .ok (.aload_n 0, 1) := by decide +kernel
theorem dJ0_length_8abf5_6 : decode cJ0_length_8abf5 6 = .ok (.invokevirtual 335, 3) := by decide +kernel
theorem dJ0_length_8abf5_9 : decode cJ0_length_8abf5 9 = .ok (.ishr, 1) := by decide +kernel
theorem dJ0_length_8abf5_10 : decode cJ0_length_8abf5 10 = .ok (.ireturn, 1) := by decide +kernel
set_option maxRecDepth 20000 in
theorem ggJ0_charAt_5068e_J0_isLatin1_aae02 : GoodIn wsJ0_charAt_5068e wsJ0_isLatin1_aae02 := goodIn_r _ [6, 7, 8] (by decide +kernel) (by decide +kernel)
set_option maxRecDepth 20000 in
theorem gJ0_charAt_5068e_J0_isLatin1_aae02 : GoodIn wsJ0_charAt_5068e (wsV RJ0 492 RJ0 yJ0_isLatin1_aae02 wsJ0_isLatin1_aae02) := goodIn_app (goodIn_of _ (by decide +kernel)) ggJ0_charAt_5068e_J0_isLatin1_aae02
set_option maxRecDepth 20000 in
theorem ggJ0_charAt_5068e_J1_charAt_3b067 : GoodIn wsJ0_charAt_5068e wsJ1_charAt_3b067 := goodIn_r _ [12, 13, 14, 5, 15, 16, 17, 18, 19, 20] (by decide +kernel) (by decide +kernel)
set_option maxRecDepth 20000 in
theorem gJ0_charAt_5068e_J1_charAt_3b067 : GoodIn wsJ0_charAt_5068e (va_wsS RJ0 495 yJ1_charAt_3b067 wsJ1_charAt_3b067) := goodIn_app (goodIn_of _ (by decide +kernel)) ggJ0_charAt_5068e_J1_charAt_3b067
set_option maxRecDepth 20000 in
theorem ggJ0_charAt_5068e_J2_charAt_3b067 : GoodIn wsJ0_charAt_5068e wsJ2_charAt_3b067 := goodIn_r _ [24, 25, 26, 23, 27, 28, 29, 30, 31, 14, 5, 15, 16, 17, 18, 19, 20, 32, 33, 34, 35, 36, 37] (by decide +kernel) (by decide +kernel)
set_option maxRecDepth 20000 in
theorem gJ0_charAt_5068e_J2_charAt_3b067 : GoodIn wsJ0_charAt_5068e (va_wsS RJ0 498 yJ2_charAt_3b067 wsJ2_charAt_3b067) := goodIn_app (goodIn_of _ (by decide +kernel)) ggJ0_charAt_5068e_J2_charAt_3b067
theorem dJ0_charAt_5068e_0 : decode cJ0_charAt_5068e 0 = .ok (.aload_n 0, 1) := by decide +kernel
theorem dJ0_charAt_5068e_1 : decode cJ0_charAt_5068e 1 = .ok (.invokevirtual 492, 3) := by decide +kernel
theorem dJ0_charAt_5068e_4 : decode cJ0_charAt_5068e 4 = .ok (.ifCond .eq 12, 3) := by decide +kernel
theorem dJ0_charAt_5068e_7 : decode cJ0_charAt_5068e 7 = .ok (.aload_n 0, 1) := by decide +kernel
theorem dJ0_charAt_5068e_8 : decode cJ0_charAt_5068e 8 = .ok (.getfield 9, 3) := by decide +kernel
theorem dJ0_charAt_5068e_11 : decode cJ0_charAt_5068e 11 = .ok (.iload_n 1, 1) := by decide +kernel
theorem dJ0_charAt_5068e_12 : decode cJ0_charAt_5068e 12 = .ok (.invokestatic 495, 3) := by decide +kernel
theorem dJ0_charAt_5068e_15 : decode cJ0_charAt_5068e 15 = .ok (.ireturn, 1) := by decide +kernel
theorem dJ0_charAt_5068e_16 : decode cJ0_charAt_5068e 16 = .ok (.aload_n 0, 1) := by decide +kernel
theorem dJ0_charAt_5068e_17 : decode cJ0_charAt_5068e 17 = .ok (.getfield 9, 3) := by decide +kernel
theorem dJ0_charAt_5068e_20 : decode cJ0_charAt_5068e 20 = .ok (.iload_n 1, 1) := by decide +kernel
theorem dJ0_charAt_5068e_21 : decode cJ0_charAt_5068e 21 = .ok (.invokestatic 498, 3) := by decide +kernel
theorem dJ0_charAt_5068e_24 : decode cJ0_charAt_5068e 24 = .ok (.ireturn, 1) := by decide +kernel
theorem dJ0_coder_7d493_0 : decode cJ0_coder_7d493 0 = .ok (.getstatic 38, 3) := by decide +kernel
theorem dJ0_coder_7d493_3 : decode cJ0_coder_7d493 3 = .ok (.ifCond .eq 10, 3) := by decide +kernel
theorem dJ0_coder_7d493_6 : decode cJ0_coder_7d493 6 = .ok (.aload_n 0, 1) := by decide +kernel
theorem dJ0_coder_7d493_7 : decode cJ0_coder_7d493 7 = .ok (.getfield 15, 3) := by decide +kernel
theorem dJ0_coder_7d493_10 : decode cJ0_coder_7d493 10 = .ok (.goto 4, 3) := by decide +kernel
theorem dJ0_coder_7d493_13 : decode cJ0_coder_7d493 13 = .ok (.iconst 1, 1) := by decide +kernel
theorem dJ0_coder_7d493_14 : decode cJ0_coder_7d493 14 = .ok (.ireturn, 1) := by decide +kernel
theorem dJ0_isLatin1_aae02_0 : decode cJ0_isLatin1_aae02 0 = .ok (.getstatic 38, 3) := by decide +kernel
theorem dJ0_isLatin1_aae02_3 : decode cJ0_isLatin1_aae02 3 = .ok (.ifCond .eq 14, 3) := by decide +kernel
theorem dJ0_isLatin1_aae02_6 : decode cJ0_isLatin1_aae02 6 = .ok (.aload_n 0, 1) := by decide +kernel
theorem dJ0_isLatin1_aae02_7 : decode cJ0_isLatin1_aae02 7 = .ok (.getfield 15, 3) := by decide +kernel
theorem dJ0_isLatin1_aae02_10 : decode cJ0_isLatin1_aae02 10 = .ok (.ifCond .ne 7, 3) := by decide +kernel
theorem dJ0_isLatin1_aae02_13 : decode cJ0_isLatin1_aae02 13 = .ok (.iconst 1, 1) := by decide +kernel
theorem dJ0_isLatin1_aae02_14 : decode cJ0_isLatin1_aae02 14 = .ok (.goto 4, 3) := by decide +kernel
theorem dJ0_isLatin1_aae02_17 : decode cJ0_isLatin1_aae02 17 = .ok (.iconst 0, 1) := by decide +kernel
theorem dJ0_isLatin1_aae02_18 : decode cJ0_isLatin1_aae02 18 = .ok (.ireturn, 1) := by decide +kernel
set_option maxRecDepth 20000 in
theorem ggJ0_checkIndex_df160_J3_checkIndex_8e157 : GoodIn wsJ0_checkIndex_df160 wsJ3_checkIndex_8e157 := goodIn_r _ [5] (by decide +kernel) (by decide +kernel)
set_option maxRecDepth 20000 in
theorem gJ0_checkIndex_df160_J3_checkIndex_8e157 : GoodIn wsJ0_checkIndex_df160 (va_wsS RJ0 1059 yJ3_checkIndex_8e157 wsJ3_checkIndex_8e157) := goodIn_app (goodIn_of _ (by decide +kernel)) ggJ0_checkIndex_df160_J3_checkIndex_8e157
theorem dJ0_checkIndex_df160_0 : decode cJ0_checkIndex_df160 0 = .ok (.iload_n 0, 1) := by decide +kernel
theorem dJ0_checkIndex_df160_1 : decode cJ0_checkIndex_df160 1 = .ok (.iload_n 1, 1) := by decide +kernel
theorem dJ0_checkIndex_df160_2 : decode cJ0_checkIndex_df160 2 = .ok (.getstatic 1053, 3) := by decide +kernel
theorem dJ0_checkIndex_df160_5 : decode cJ0_checkIndex_df160 5 = .ok (.invokestatic 1059, 3) := by decide +kernel
theorem dJ0_checkIndex_df160_8 : decode cJ0_checkIndex_df160 8 = .ok (.pop, 1) := by decide +kernel
theorem dJ0_checkIndex_df160_9 : decode cJ0_checkIndex_df160 9 = .ok (.return_, 1) := by decide +kernel
set_option maxRecDepth 20000 in
theorem ggJ1_charAt_3b067_J0_checkIndex_df160 : GoodIn wsJ1_charAt_3b067 wsJ0_checkIndex_df160 := goodIn_r _ [4, 5, 6, 7, 8, 9] (by decide +kernel) (by decide +kernel)
set_option maxRecDepth 20000 in
theorem gJ1_charAt_3b067_J0_checkIndex_df160 : GoodIn wsJ1_charAt_3b067 (va_wsS RJ1 9 yJ0_checkIndex_df160 wsJ0_checkIndex_df160) := goodIn_app (goodIn_of _ (by decide +kernel)) ggJ1_charAt_3b067_J0_checkIndex_df160
theorem dJ1_charAt_3b067_0 : decode cJ1_charAt_3b067 0 = .ok (.iload_n 1, 1) := by decide +kernel
theorem dJ1_charAt_3b067_1 : decode cJ1_charAt_3b067 1 = .ok (.aload_n 0, 1) := by decide +kernel
theorem dJ1_charAt_3b067_2 : decode cJ1_charAt_3b067 2 = .ok (.arraylength, 1) := by decide +kernel
theorem dJ1_charAt_3b067_3 : decode cJ1_charAt_3b067 3 = .ok (.invokestatic 9, 3) := by decide +kernel
theorem dJ1_charAt_3b067_6 : decode cJ1_charAt_3b067 6 = .ok (.aload_n 0, 1) := by decide +kernel
theorem dJ1_charAt_3b067_7 : decode cJ1_charAt_3b067 7 = .ok (.iload_n 1, 1) := by decide +kernel
theorem dJ1_charAt_3b067_8 : decode cJ1_charAt_3b067 8 = .ok (.baload, 1) := by decide +kernel
theorem dJ1_charAt_3b067_9 : decode cJ1_charAt_3b067 9 = .ok (.sipush 255, 3) := by decide +kernel
theorem dJ1_charAt_3b067_12 : decode cJ1_charAt_3b067 12 = .ok (.iand, 1) := by decide +kernel
theorem dJ1_charAt_3b067_13 : decode cJ1_charAt_3b067 13 = .ok (.i2c, 1) := by decide +kernel
theorem dJ1_charAt_3b067_14 : decode cJ1_charAt_3b067 14 = .ok (.ireturn, 1) := by decide +kernel
set_option maxRecDepth 20000 in
theorem ggJ2_getChar_3b067_J2_length_9d52b : GoodIn wsJ2_getChar_3b067 wsJ2_length_9d52b := goodIn_r _ [7] (by decide +kernel) (by decide +kernel)
set_option maxRecDepth 20000 in
theorem gJ2_getChar_3b067_J2_length_9d52b : GoodIn wsJ2_getChar_3b067 (va_wsS RJ2 48 yJ2_length_9d52b wsJ2_length_9d52b) := goodIn_app (goodIn_of _ (by decide +kernel)) ggJ2_getChar_3b067_J2_length_9d52b
theorem dJ2_getChar_3b067_0 : decode cJ2_getChar_3b067 0 = .ok (.getstatic 44, 3) := by decide +kernel
theorem dJ2_getChar_3b067_3 : decode cJ2_getChar_3b067 3 = .ok (.ifCond .ne 25, 3) := by decide +kernel
theorem dJ2_getChar_3b067_6 : decode cJ2_getChar_3b067 6 = .ok (.iload_n 1, 1) := by decide +kernel
theorem dJ2_getChar_3b067_7 : decode cJ2_getChar_3b067 7 = .ok (.ifCond .lt 11, 3) := by decide +kernel
theorem dJ2_getChar_3b067_10 : decode cJ2_getChar_3b067 10 = .ok (.iload_n 1, 1) := by decide +kernel
theorem dJ2_getChar_3b067_11 : decode cJ2_getChar_3b067 11 = .ok (.aload_n 0, 1) := by decide +kernel
theorem dJ2_getChar_3b067_12 : decode cJ2_getChar_3b067 12 = .ok (.invokestatic 48, 3) := by decide +kernel
theorem dJ2_getChar_3b067_15 : decode cJ2_getChar_3b067 15 = .ok (.if_icmp .lt 13, 3) := by decide +kernel
theorem dJ2_getChar_3b067_18 : decode cJ2_getChar_3b067 18 = .ok (.new 52, 3) := by decide +kernel
theorem dJ2_getChar_3b067_21 : decode cJ2_getChar_3b067 21 = .ok (.dup, 1) := by decide +kernel
theorem dJ2_getChar_3b067_22 : decode cJ2_getChar_3b067 22 = .ok (.ldc 54, 2) := by decide +kernel
theorem dJ2_getChar_3b067_24 : decode cJ2_getChar_3b067 24 = .ok (.invokespecial 56, 3) := by decide +kernel
theorem dJ2_getChar_3b067_27 : decode cJ2_getChar_3b067 27 = .ok (.athrow, 1) := by decide +kernel
theorem dJ2_getChar_3b067_28 : decode cJ2_getChar_3b067 28 = .ok (.iload_n 1, 1) := by decide +kernel
theorem dJ2_getChar_3b067_29 : decode cJ2_getChar_3b067 29 = .ok (.iconst 1, 1) := by decide +kernel
theorem dJ2_getChar_3b067_30 : decode cJ2_getChar_3b067 30 = .ok (.ishl, 1) := by decide +kernel
theorem dJ2_getChar_3b067_31 : decode cJ2_getChar_3b067 31 = .ok (.istore_n 1, 1) := by decide +kernel
theorem dJ2_getChar_3b067_32 : decode cJ2_getChar_3b067 32 = .ok (.aload_n 0, 1) := by decide +kernel
theorem dJ2_getChar_3b067_33 : decode cJ2_getChar_3b067 33 = .ok (.iload_n 1, 1) := by decide +kernel
theorem dJ2_getChar_3b067_34 : decode cJ2_getChar_3b067 34 = .ok (.iinc 1 1, 3) := by decide +kernel
theorem dJ2_getChar_3b067_37 : decode cJ2_getChar_3b067 37 = .ok (.baload, 1) := by decide +kernel
theorem dJ2_getChar_3b067_38 : decode cJ2_getChar_3b067 38 = .ok (.sipush 255, 3) := by decide +kernel
theorem dJ2_getChar_3b067_41 : decode cJ2_getChar_3b067 41 = .ok (.iand, 1) := by decide +kernel
theorem dJ2_getChar_3b067_42 : decode cJ2_getChar_3b067 42 = .ok (.getstatic 59, 3) := by decide +kernel
theorem dJ2_getChar_3b067_45 : decode cJ2_getChar_3b067 45 = .ok (.ishl, 1) := by decide +kernel
theorem dJ2_getChar_3b067_46 : decode cJ2_getChar_3b067 46 = .ok (.aload_n 0, 1) := by decide +kernel
theorem dJ2_getChar_3b067_47 : decode cJ2_getChar_3b067 47 = .ok (.iload_n 1, 1) := by decide +kernel
theorem dJ2_getChar_3b067_48 : decode cJ2_getChar_3b067 48 = .ok (.baload, 1) := by decide +kernel
theorem dJ2_getChar_3b067_49 : decode cJ2_getChar_3b067 49 = .ok (.sipush 255, 3) := by decide +kernel
theorem dJ2_getChar_3b067_52 : decode cJ2_getChar_3b067 52 = .ok (.iand, 1) := by decide +kernel
theorem dJ2_getChar_3b067_53 : decode cJ2_getChar_3b067 53 = .ok (.getstatic 63, 3) := by decide +kernel
theorem dJ2_getChar_3b067_56 : decode cJ2_getChar_3b067 56 = .ok (.ishl, 1) := by decide +kernel
theorem dJ2_getChar_3b067_57 : decode cJ2_getChar_3b067 57 = .ok (.ior, 1) := by decide +kernel
theorem dJ2_getChar_3b067_58 : decode cJ2_getChar_3b067 58 = .ok (.i2c, 1) := by decide +kernel
theorem dJ2_getChar_3b067_59 : decode cJ2_getChar_3b067 59 = .ok (.ireturn, 1) := by decide +kernel
theorem dJ2_length_9d52b_0 : decode cJ2_length_9d52b 0 = .ok (.aload_n 0, 1) := by decide +kernel
theorem dJ2_length_9d52b_1 : decode cJ2_length_9d52b 1 = .ok (.arraylength, 1) := by decide +kernel
theorem dJ2_length_9d52b_2 : decode cJ2_length_9d52b 2 = .ok (.iconst 1, 1) := by decide +kernel
theorem dJ2_length_9d52b_3 : decode cJ2_length_9d52b 3 = .ok (.ishr, 1) := by decide +kernel
theorem dJ2_length_9d52b_4 : decode cJ2_length_9d52b 4 = .ok (.ireturn, 1) := by decide +kernel
set_option maxRecDepth 20000 in
theorem ggJ2_charAt_3b067_J2_checkIndex_2214a : GoodIn wsJ2_charAt_3b067 wsJ2_checkIndex_2214a := goodIn_r _ [4, 5, 6, 3, 7, 8, 9, 10, 11, 12, 13, 14, 15, 16] (by decide +kernel) (by decide +kernel)
set_option maxRecDepth 20000 in
theorem gJ2_charAt_3b067_J2_checkIndex_2214a : GoodIn wsJ2_charAt_3b067 (va_wsS RJ2 67 yJ2_checkIndex_2214a wsJ2_checkIndex_2214a) := goodIn_app (goodIn_of _ (by decide +kernel)) ggJ2_charAt_3b067_J2_checkIndex_2214a
set_option maxRecDepth 20000 in
theorem ggJ2_charAt_3b067_J2_getChar_3b067 : GoodIn wsJ2_charAt_3b067 wsJ2_getChar_3b067 := goodIn_r _ [19, 20, 21, 22, 5, 6, 3, 7] (by decide +kernel) (by decide +kernel)
set_option maxRecDepth 20000 in
theorem gJ2_charAt_3b067_J2_getChar_3b067 : GoodIn wsJ2_charAt_3b067 (va_wsS RJ2 71 yJ2_getChar_3b067 wsJ2_getChar_3b067) := goodIn_app (goodIn_of _ (by decide +kernel)) ggJ2_charAt_3b067_J2_getChar_3b067
theorem dJ2_charAt_3b067_0 : decode cJ2_charAt_3b067 0 = .ok (.iload_n 1, 1) := by decide +kernel
theorem dJ2_charAt_3b067_1 : decode cJ2_charAt_3b067 1 = .ok (.aload_n 0, 1) := by decide +kernel
theorem dJ2_charAt_3b067_2 : decode cJ2_charAt_3b067 2 = .ok (.invokestatic 67, 3) := by decide +kernel
theorem dJ2_charAt_3b067_5 : decode cJ2_charAt_3b067 5 = .ok (.aload_n 0, 1) := by decide +kernel
theorem dJ2_charAt_3b067_6 : decode cJ2_charAt_3b067 6 = .ok (.iload_n 1, 1) := by decide +kernel
theorem dJ2_charAt_3b067_7 : decode cJ2_charAt_3b067 7 = .ok (.invokestatic 71, 3) := by decide +kernel
theorem dJ2_charAt_3b067_10 : decode cJ2_charAt_3b067 10 = .ok (.ireturn, 1) := by decide +kernel
set_option maxRecDepth 20000 in
theorem ggJ2_checkIndex_2214a_J2_length_9d52b : GoodIn wsJ2_checkIndex_2214a wsJ2_length_9d52b := goodIn_r _ [4] (by decide +kernel) (by decide +kernel)
set_option maxRecDepth 20000 in
theorem gJ2_checkIndex_2214a_J2_length_9d52b : GoodIn wsJ2_checkIndex_2214a (va_wsS RJ2 48 yJ2_length_9d52b wsJ2_length_9d52b) := goodIn_app (goodIn_of _ (by decide +kernel)) ggJ2_checkIndex_2214a_J2_length_9d52b
set_option maxRecDepth 20000 in
theorem ggJ2_checkIndex_2214a_J0_checkIndex_df160 : GoodIn wsJ2_checkIndex_2214a wsJ0_checkIndex_df160 := goodIn_r _ [8, 9, 10, 11, 12, 13] (by decide +kernel) (by decide +kernel)
set_option maxRecDepth 20000 in
theorem gJ2_checkIndex_2214a_J0_checkIndex_df160 : GoodIn wsJ2_checkIndex_2214a (va_wsS RJ2 414 yJ0_checkIndex_df160 wsJ0_checkIndex_df160) := goodIn_app (goodIn_of _ (by decide +kernel)) ggJ2_checkIndex_2214a_J0_checkIndex_df160
theorem dJ2_checkIndex_2214a_0 : decode cJ2_checkIndex_2214a 0 = .ok (.iload_n 0, 1) := by decide +kernel
theorem dJ2_checkIndex_2214a_1 : decode cJ2_checkIndex_2214a 1 = .ok (.aload_n 1, 1) := by decide +kernel
theorem dJ2_checkIndex_2214a_2 : decode cJ2_checkIndex_2214a 2 = .ok (.invokestatic 48, 3) := by decide +kernel
theorem dJ2_checkIndex_2214a_5 : decode cJ2_checkIndex_2214a 5 = .ok (.invokestatic 414, 3) := by decide +kernel
theorem dJ2_checkIndex_2214a_8 : decode cJ2_checkIndex_2214a 8 = .ok (.return_, 1) := by decide +kernel
theorem dJ7_fill_53178_0 : decode cJ7_fill_53178 0 = .ok (.iconst 0, 1) := by decide +kernel
theorem dJ7_fill_53178_1 : decode cJ7_fill_53178 1 = .ok (.istore_n 2, 1) := by decide +kernel
theorem dJ7_fill_53178_2 : decode cJ7_fill_53178 2 = .ok (.aload_n 0, 1) := by decide +kernel
theorem dJ7_fill_53178_3 : decode cJ7_fill_53178 3 = .ok (.arraylength, 1) := by decide +kernel
theorem dJ7_fill_53178_4 : decode cJ7_fill_53178 4 = .ok (.istore_n 3, 1) := by decide +kernel
theorem dJ7_fill_53178_5 : decode cJ7_fill_53178 5 = .ok (.iload_n 2, 1) := by decide +kernel
theorem dJ7_fill_53178_6 : decode cJ7_fill_53178 6 = .ok (.iload_n 3, 1) := by decide +kernel
theorem dJ7_fill_53178_7 : decode cJ7_fill_53178 7 = .ok (.if_icmp .ge 13, 3) := by decide +kernel
theorem dJ7_fill_53178_10 : decode cJ7_fill_53178 10 = .ok (.aload_n 0, 1) := by decide +kernel
theorem dJ7_fill_53178_11 : decode cJ7_fill_53178 11 = .ok (.iload_n 2, 1) := by decide +kernel
theorem dJ7_fill_53178_12 : decode cJ7_fill_53178 12 = .ok (.iload_n 1, 1) := by decide +kernel
theorem dJ7_fill_53178_13 : decode cJ7_fill_53178 13 = .ok (.iastore, 1) := by decide +kernel
theorem dJ7_fill_53178_14 : decode cJ7_fill_53178 14 = .ok (.iinc 2 1, 3) := by decide +kernel
theorem dJ7_fill_53178_17 : decode cJ7_fill_53178 17 = .ok (.goto (-12), 3) := by decide +kernel
theorem dJ7_fill_53178_20 : decode cJ7_fill_53178 20 = .ok (.return_, 1) := by decide +kernel
theorem dJ7_copyOf_59c91_0 : decode cJ7_copyOf_59c91 0 = .ok (.iload_n 1, 1) := by decide +kernel
theorem dJ7_copyOf_59c91_1 : decode cJ7_copyOf_59c91 1 = .ok (.aload_n 0, 1) := by decide +kernel
theorem dJ7_copyOf_59c91_2 : decode cJ7_copyOf_59c91 2 = .ok (.arraylength, 1) := by decide +kernel
theorem dJ7_copyOf_59c91_3 : decode cJ7_copyOf_59c91 3 = .ok (.if_icmp .ne 11, 3) := by decide +kernel
theorem dJ7_copyOf_59c91_6 : decode cJ7_copyOf_59c91 6 = .ok (.aload_n 0, 1) := by decide +kernel
theorem dJ7_copyOf_59c91_7 : decode cJ7_copyOf_59c91 7 = .ok (.invokevirtual 316, 3) := by decide +kernel
theorem dJ7_copyOf_59c91_10 : decode cJ7_copyOf_59c91 10 = .ok (.checkcast 317, 3) := by decide +kernel
theorem dJ7_copyOf_59c91_13 : decode cJ7_copyOf_59c91 13 = .ok (.areturn, 1) := by decide +kernel
theorem dJ7_copyOf_59c91_14 : decode cJ7_copyOf_59c91 14 = .ok (.iload_n 1, 1) := by decide +kernel
theorem dJ7_copyOf_59c91_15 : decode cJ7_copyOf_59c91 15 = .ok (.newarray .int, 2) := by decide +kernel
theorem dJ7_copyOf_59c91_17 : decode cJ7_copyOf_59c91 17 = .ok (.astore_n 2, 1) := by decide +kernel
theorem dJ7_copyOf_59c91_18 : decode cJ7_copyOf_59c91 18 = .ok (.aload_n 0, 1) := by decide +kernel
theorem dJ7_copyOf_59c91_19 : decode cJ7_copyOf_59c91 19 = .ok (.iconst 0, 1) := by decide +kernel
theorem dJ7_copyOf_59c91_20 : decode cJ7_copyOf_59c91 20 = .ok (.aload_n 2, 1) := by decide +kernel
theorem dJ7_copyOf_59c91_21 : decode cJ7_copyOf_59c91 21 = .ok (.iconst 0, 1) := by decide +kernel
theorem dJ7_copyOf_59c91_22 : decode cJ7_copyOf_59c91 22 = .ok (.aload_n 0, 1) := by decide +kernel
theorem dJ7_copyOf_59c91_23 : decode cJ7_copyOf_59c91 23 = .ok (.arraylength, 1) := by decide +kernel
theorem dJ7_copyOf_59c91_24 : decode cJ7_copyOf_59c91 24 = .ok (.iload_n 1, 1) := by decide +kernel
theorem dJ7_copyOf_59c91_25 : decode cJ7_copyOf_59c91 25 = .ok (.invokestatic 304, 3) := by decide +kernel
theorem dJ7_copyOf_59c91_28 : decode cJ7_copyOf_59c91 28 = .ok (.invokestatic 150, 3) := by decide +kernel
theorem dJ7_copyOf_59c91_31 : decode cJ7_copyOf_59c91 31 = .ok (.aload_n 2, 1) := by decide +kernel
theorem dJ7_copyOf_59c91_32 : decode cJ7_copyOf_59c91 32 = .ok (.areturn, 1) := by decide +kernel
theorem dJ3_checkIndex_8e157_0 : decode cJ3_checkIndex_8e157 0 = .ok (.iload_n 0, 1) := by decide +kernel
theorem dJ3_checkIndex_8e157_1 : decode cJ3_checkIndex_8e157 1 = .ok (.ifCond .lt 8, 3) := by decide +kernel
theorem dJ3_checkIndex_8e157_4 : decode cJ3_checkIndex_8e157 4 = .ok (.iload_n 0, 1) := by decide +kernel
theorem dJ3_checkIndex_8e157_5 : decode cJ3_checkIndex_8e157 5 = .ok (.iload_n 1, 1) := by decide +kernel
theorem dJ3_checkIndex_8e157_6 : decode cJ3_checkIndex_8e157 6 = .ok (.if_icmp .lt 10, 3) := by decide +kernel
theorem dJ3_checkIndex_8e157_9 : decode cJ3_checkIndex_8e157 9 = .ok (.aload_n 2, 1) := by decide +kernel
theorem dJ3_checkIndex_8e157_10 : decode cJ3_checkIndex_8e157 10 = .ok (.iload_n 0, 1) := by decide +kernel
theorem dJ3_checkIndex_8e157_11 : decode cJ3_checkIndex_8e157 11 = .ok (.iload_n 1, 1) := by decide +kernel
theorem dJ3_checkIndex_8e157_12 : decode cJ3_checkIndex_8e157 12 = .ok (.invokestatic 95, 3) := by decide +kernel
theorem dJ3_checkIndex_8e157_15 : decode cJ3_checkIndex_8e157 15 = .ok (.athrow, 1) := by decide +kernel
theorem dJ3_checkIndex_8e157_16 : decode cJ3_checkIndex_8e157 16 = .ok (.iload_n 0, 1) := by decide +kernel
theorem dJ3_checkIndex_8e157_17 : decode cJ3_checkIndex_8e157 17 = .ok (.ireturn, 1) := by decide +kernel
abbrev vwCl : List vw_C := [(RX0, TX0, 1), (RX1, TX1, 17), (RX2, TX2, 4), (RX3, TX3, 2), (RX4, TX4, 4), (RX5, TX5, 3), (RX6, TX6, 18), (RX7, TX7, 56)]
