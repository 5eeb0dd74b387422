theorem dX7_term_58 : decode cX7_term 58 = .ok (.iinc 2 1, 3) := by decide +kernel
theorem dX7_term_61 : decode cX7_term 61 = .ok (.goto (-45), 3) := by decide +kernel
theorem dX7_term_64 : decode cX7_term 64 = .ok (.aload_n 0, 1) := by decide +kernel
theorem dX7_term_65 : decode cX7_term 65 = .ok (.getfield 277, 3) := by decide +kernel
theorem dX7_term_68 : decode cX7_term 68 = .ok (.iload_n 1, 1) := by decide +kernel
theorem dX7_term_69 : decode cX7_term 69 = .ok (.iadd, 1) := by decide +kernel
theorem dX7_term_70 : decode cX7_term 70 = .ok (.sipush 400, 3) := by decide +kernel
theorem dX7_term_73 : decode cX7_term 73 = .ok (.if_icmp .le 6, 3) := by decide +kernel
theorem dX7_term_76 : decode cX7_term 76 = .ok (.bipush (-3), 2) := by decide +kernel
theorem dX7_term_78 : decode cX7_term 78 = .ok (.ireturn, 1) := by decide +kernel
theorem dX7_term_79 : decode cX7_term 79 = .ok (.aload_n 0, 1) := by decide +kernel
theorem dX7_term_80 : decode cX7_term 80 = .ok (.dup, 1) := by decide +kernel
theorem dX7_term_81 : decode cX7_term 81 = .ok (.getfield 267, 3) := by decide +kernel
theorem dX7_term_84 : decode cX7_term 84 = .ok (.iconst 1, 1) := by decide +kernel
theorem dX7_term_85 : decode cX7_term 85 = .ok (.iadd, 1) := by decide +kernel
theorem dX7_term_86 : decode cX7_term 86 = .ok (.putfield 267, 3) := by decide +kernel
theorem dX7_term_89 : decode cX7_term 89 = .ok (.iconst 0, 1) := by decide +kernel
theorem dX7_term_90 : decode cX7_term 90 = .ok (.istore_n 2, 1) := by decide +kernel
theorem dX7_term_91 : decode cX7_term 91 = .ok (.iload_n 2, 1) := by decide +kernel
theorem dX7_term_92 : decode cX7_term 92 = .ok (.bipush 8, 2) := by decide +kernel
theorem dX7_term_94 : decode cX7_term 94 = .ok (.if_icmp .ge 55, 3) := by decide +kernel
theorem dX7_term_97 : decode cX7_term 97 = .ok (.aload_n 0, 1) := by decide +kernel
theorem dX7_term_98 : decode cX7_term 98 = .ok (.getfield 267, 3) := by decide +kernel
theorem dX7_term_101 : decode cX7_term 101 = .ok (.iconst 2, 1) := by decide +kernel
theorem dX7_term_102 : decode cX7_term 102 = .ok (.irem, 1) := by decide +kernel
theorem dX7_term_103 : decode cX7_term 103 = .ok (.ifCond .ne 46, 3) := by decide +kernel
theorem dX7_term_106 : decode cX7_term 106 = .ok (.aload_n 0, 1) := by decide +kernel
theorem dX7_term_107 : decode cX7_term 107 = .ok (.getfield 44, 3) := by decide +kernel
theorem dX7_term_110 : decode cX7_term 110 = .ok (.iload_n 2, 1) := by decide +kernel
theorem dX7_term_111 : decode cX7_term 111 = .ok (.iaload, 1) := by decide +kernel
theorem dX7_term_112 : decode cX7_term 112 = .ok (.ifCond .le 31, 3) := by decide +kernel
theorem dX7_term_115 : decode cX7_term 115 = .ok (.aload_n 0, 1) := by decide +kernel
theorem dX7_term_116 : decode cX7_term 116 = .ok (.getfield 47, 3) := by decide +kernel
theorem dX7_term_119 : decode cX7_term 119 = .ok (.iload_n 2, 1) := by decide +kernel
theorem dX7_term_120 : decode cX7_term 120 = .ok (.iaload, 1) := by decide +kernel
theorem dX7_term_121 : decode cX7_term 121 = .ok (.ifCond .lt 22, 3) := by decide +kernel
theorem dX7_term_124 : decode cX7_term 124 = .ok (.aload_n 0, 1) := by decide +kernel
theorem dX7_term_125 : decode cX7_term 125 = .ok (.aload_n 0, 1) := by decide +kernel
theorem dX7_term_126 : decode cX7_term 126 = .ok (.getfield 47, 3) := by decide +kernel
theorem dX7_term_129 : decode cX7_term 129 = .ok (.iload_n 2, 1) := by decide +kernel
theorem dX7_term_130 : decode cX7_term 130 = .ok (.iaload, 1) := by decide +kernel
theorem dX7_term_131 : decode cX7_term 131 = .ok (.iconst 0, 1) := by decide +kernel
theorem dX7_term_132 : decode cX7_term 132 = .ok (.aload_n 0, 1) := by decide +kernel
theorem dX7_term_133 : decode cX7_term 133 = .ok (.getfield 44, 3) := by decide +kernel
theorem dX7_term_136 : decode cX7_term 136 = .ok (.iload_n 2, 1) := by decide +kernel
theorem dX7_term_137 : decode cX7_term 137 = .ok (.iaload, 1) := by decide +kernel
theorem dX7_term_138 : decode cX7_term 138 = .ok (.iconst (-1), 1) := by decide +kernel
theorem dX7_term_139 : decode cX7_term 139 = .ok (.invokevirtual 285, 3) := by decide +kernel
theorem dX7_term_142 : decode cX7_term 142 = .ok (.istore_n 1, 1) := by decide +kernel
theorem dX7_term_143 : decode cX7_term 143 = .ok (.iinc 2 1, 3) := by decide +kernel
theorem dX7_term_146 : decode cX7_term 146 = .ok (.goto (-55), 3) := by decide +kernel
theorem dX7_term_149 : decode cX7_term 149 = .ok (.aload_n 0, 1) := by decide +kernel
theorem dX7_term_150 : decode cX7_term 150 = .ok (.getfield 267, 3) := by decide +kernel
theorem dX7_term_153 : decode cX7_term 153 = .ok (.ireturn, 1) := by decide +kernel
theorem dX7_allOf_0 : decode cX7_allOf 0 = .ok (.lconst 0, 1) := by decide +kernel
theorem dX7_allOf_1 : decode cX7_allOf 1 = .ok (.lstore_n 2, 1) := by decide +kernel
theorem dX7_allOf_2 : decode cX7_allOf 2 = .ok (.iconst 0, 1) := by decide +kernel
theorem dX7_allOf_3 : decode cX7_allOf 3 = .ok (.istore 4, 2) := by decide +kernel
theorem dX7_allOf_5 : decode cX7_allOf 5 = .ok (.iload 4, 2) := by decide +kernel
theorem dX7_allOf_7 : decode cX7_allOf 7 = .ok (.aload_n 0, 1) := by decide +kernel
theorem dX7_allOf_8 : decode cX7_allOf 8 = .ok (.getfield 277, 3) := by decide +kernel
theorem dX7_allOf_11 : decode cX7_allOf 11 = .ok (.if_icmp .ge 35, 3) := by decide +kernel
theorem dX7_allOf_14 : decode cX7_allOf 14 = .ok (.lload_n 2, 1) := by decide +kernel
theorem dX7_allOf_15 : decode cX7_allOf 15 = .ok (.aload_n 0, 1) := by decide +kernel
theorem dX7_allOf_16 : decode cX7_allOf 16 = .ok (.getfield 50, 3) := by decide +kernel
theorem dX7_allOf_19 : decode cX7_allOf 19 = .ok (.iload 4, 2) := by decide +kernel
theorem dX7_allOf_21 : decode cX7_allOf 21 = .ok (.iaload, 1) := by decide +kernel
theorem dX7_allOf_22 : decode cX7_allOf 22 = .ok (.iload_n 1, 1) := by decide +kernel
theorem dX7_allOf_23 : decode cX7_allOf 23 = .ok (.if_icmp .ne 14, 3) := by decide +kernel
theorem dX7_allOf_26 : decode cX7_allOf 26 = .ok (.aload_n 0, 1) := by decide +kernel
theorem dX7_allOf_27 : decode cX7_allOf 27 = .ok (.getfield 59, 3) := by decide +kernel
theorem dX7_allOf_30 : decode cX7_allOf 30 = .ok (.iload 4, 2) := by decide +kernel
theorem dX7_allOf_32 : decode cX7_allOf 32 = .ok (.iaload, 1) := by decide +kernel
theorem dX7_allOf_33 : decode cX7_allOf 33 = .ok (.i2l, 1) := by decide +kernel
theorem dX7_allOf_34 : decode cX7_allOf 34 = .ok (.goto 4, 3) := by decide +kernel
theorem dX7_allOf_37 : decode cX7_allOf 37 = .ok (.lconst 0, 1) := by decide +kernel
theorem dX7_allOf_38 : decode cX7_allOf 38 = .ok (.ladd, 1) := by decide +kernel
theorem dX7_allOf_39 : decode cX7_allOf 39 = .ok (.lstore_n 2, 1) := by decide +kernel
theorem dX7_allOf_40 : decode cX7_allOf 40 = .ok (.iinc 4 1, 3) := by decide +kernel
theorem dX7_allOf_43 : decode cX7_allOf 43 = .ok (.goto (-38), 3) := by decide +kernel
theorem dX7_allOf_46 : decode cX7_allOf 46 = .ok (.lload_n 2, 1) := by decide +kernel
theorem dX7_allOf_47 : decode cX7_allOf 47 = .ok (.lreturn, 1) := by decide +kernel
theorem dX7_owedOf_0 : decode cX7_owedOf 0 = .ok (.iconst 0, 1) := by decide +kernel
theorem dX7_owedOf_1 : decode cX7_owedOf 1 = .ok (.istore_n 2, 1) := by decide +kernel
theorem dX7_owedOf_2 : decode cX7_owedOf 2 = .ok (.iconst 0, 1) := by decide +kernel
theorem dX7_owedOf_3 : decode cX7_owedOf 3 = .ok (.istore_n 3, 1) := by decide +kernel
theorem dX7_owedOf_4 : decode cX7_owedOf 4 = .ok (.iload_n 3, 1) := by decide +kernel
theorem dX7_owedOf_5 : decode cX7_owedOf 5 = .ok (.aload_n 0, 1) := by decide +kernel
theorem dX7_owedOf_6 : decode cX7_owedOf 6 = .ok (.getfield 277, 3) := by decide +kernel
theorem dX7_owedOf_9 : decode cX7_owedOf 9 = .ok (.if_icmp .ge 36, 3) := by decide +kernel
theorem dX7_owedOf_12 : decode cX7_owedOf 12 = .ok (.iload_n 2, 1) := by decide +kernel
theorem dX7_owedOf_13 : decode cX7_owedOf 13 = .ok (.aload_n 0, 1) := by decide +kernel
theorem dX7_owedOf_14 : decode cX7_owedOf 14 = .ok (.getfield 50, 3) := by decide +kernel
theorem dX7_owedOf_17 : decode cX7_owedOf 17 = .ok (.iload_n 3, 1) := by decide +kernel
theorem dX7_owedOf_18 : decode cX7_owedOf 18 = .ok (.iaload, 1) := by decide +kernel
theorem dX7_owedOf_19 : decode cX7_owedOf 19 = .ok (.iload_n 1, 1) := by decide +kernel
theorem dX7_owedOf_20 : decode cX7_owedOf 20 = .ok (.if_icmp .ne 16, 3) := by decide +kernel
theorem dX7_owedOf_23 : decode cX7_owedOf 23 = .ok (.aload_n 0, 1) := by decide +kernel
theorem dX7_owedOf_24 : decode cX7_owedOf 24 = .ok (.getfield 59, 3) := by decide +kernel
theorem dX7_owedOf_27 : decode cX7_owedOf 27 = .ok (.iload_n 3, 1) := by decide +kernel
theorem dX7_owedOf_28 : decode cX7_owedOf 28 = .ok (.iaload, 1) := by decide +kernel
theorem dX7_owedOf_29 : decode cX7_owedOf 29 = .ok (.ifCond .le 7, 3) := by decide +kernel
theorem dX7_owedOf_32 : decode cX7_owedOf 32 = .ok (.iconst 1, 1) := by decide +kernel
theorem dX7_owedOf_33 : decode cX7_owedOf 33 = .ok (.goto 4, 3) := by decide +kernel
theorem dX7_owedOf_36 : decode cX7_owedOf 36 = .ok (.iconst 0, 1) := by decide +kernel
theorem dX7_owedOf_37 : decode cX7_owedOf 37 = .ok (.iadd, 1) := by decide +kernel
theorem dX7_owedOf_38 : decode cX7_owedOf 38 = .ok (.istore_n 2, 1) := by decide +kernel
theorem dX7_owedOf_39 : decode cX7_owedOf 39 = .ok (.iinc 3 1, 3) := by decide +kernel
theorem dX7_owedOf_42 : decode cX7_owedOf 42 = .ok (.goto (-38), 3) := by decide +kernel
theorem dX7_owedOf_45 : decode cX7_owedOf 45 = .ok (.iload_n 2, 1) := by decide +kernel
theorem dX7_owedOf_46 : decode cX7_owedOf 46 = .ok (.ireturn, 1) := by decide +kernel
set_option maxRecDepth 20000 in
theorem ggX7_worth_X7_allOf : GoodIn wsX7_worth wsX7_allOf := goodIn_r _ [12, 13, 2, 1, 14, 15, 16, 17, 18, 19, 20, 21, 22, 23, 24, 25, 26, 27, 28, 29, 30, 31, 32, 33, 34, 35, 36, 37, 38, 39, 40, 41, 42, 43, 44, 45, 46, 47, 48, 49, 50, 51, 52, 53, 54, 55, 56, 57, 58, 59, 60, 61, 62, 63, 64, 65, 66, 67, 68, 69] (by decide +kernel) (by decide +kernel)
set_option maxRecDepth 20000 in
theorem gX7_worth_X7_allOf : GoodIn wsX7_worth (wsV RX7 289 RX7 yX7_allOf wsX7_allOf) := goodIn_app (goodIn_of _ (by decide +kernel)) ggX7_worth_X7_allOf
theorem dX7_worth_0 : decode cX7_worth 0 = .ok (.iload_n 1, 1) := by decide +kernel
theorem dX7_worth_1 : decode cX7_worth 1 = .ok (.tableswitch 130 111 119 #[51, 59, 70, 83, 91, 93, 99, 107, 127], 51) := by decide +kernel
theorem dX7_worth_52 : decode cX7_worth 52 = .ok (.aload_n 0, 1) := by decide +kernel
theorem dX7_worth_53 : decode cX7_worth 53 = .ok (.getfield 59, 3) := by decide +kernel
theorem dX7_worth_56 : decode cX7_worth 56 = .ok (.iload_n 2, 1) := by decide +kernel
theorem dX7_worth_57 : decode cX7_worth 57 = .ok (.iaload, 1) := by decide +kernel
theorem dX7_worth_58 : decode cX7_worth 58 = .ok (.i2l, 1) := by decide +kernel
theorem dX7_worth_59 : decode cX7_worth 59 = .ok (.lreturn, 1) := by decide +kernel
theorem dX7_worth_60 : decode cX7_worth 60 = .ok (.aload_n 0, 1) := by decide +kernel
theorem dX7_worth_61 : decode cX7_worth 61 = .ok (.aload_n 0, 1) := by decide +kernel
theorem dX7_worth_62 : decode cX7_worth 62 = .ok (.getfield 50, 3) := by decide +kernel
theorem dX7_worth_65 : decode cX7_worth 65 = .ok (.iload_n 2, 1) := by decide +kernel
theorem dX7_worth_66 : decode cX7_worth 66 = .ok (.iaload, 1) := by decide +kernel
theorem dX7_worth_67 : decode cX7_worth 67 = .ok (.invokevirtual 289, 3) := by decide +kernel
theorem dX7_worth_70 : decode cX7_worth 70 = .ok (.lreturn, 1) := by decide +kernel
theorem dX7_worth_71 : decode cX7_worth 71 = .ok (.aload_n 0, 1) := by decide +kernel
theorem dX7_worth_72 : decode cX7_worth 72 = .ok (.getfield 267, 3) := by decide +kernel
theorem dX7_worth_75 : decode cX7_worth 75 = .ok (.aload_n 0, 1) := by decide +kernel
theorem dX7_worth_76 : decode cX7_worth 76 = .ok (.getfield 62, 3) := by decide +kernel
theorem dX7_worth_79 : decode cX7_worth 79 = .ok (.iload_n 2, 1) := by decide +kernel
theorem dX7_worth_80 : decode cX7_worth 80 = .ok (.iaload, 1) := by decide +kernel
theorem dX7_worth_81 : decode cX7_worth 81 = .ok (.isub, 1) := by decide +kernel
theorem dX7_worth_82 : decode cX7_worth 82 = .ok (.i2l, 1) := by decide +kernel
theorem dX7_worth_83 : decode cX7_worth 83 = .ok (.lreturn, 1) := by decide +kernel
theorem dX7_worth_84 : decode cX7_worth 84 = .ok (.aload_n 0, 1) := by decide +kernel
theorem dX7_worth_85 : decode cX7_worth 85 = .ok (.getfield 53, 3) := by decide +kernel
theorem dX7_worth_88 : decode cX7_worth 88 = .ok (.iload_n 2, 1) := by decide +kernel
theorem dX7_worth_89 : decode cX7_worth 89 = .ok (.iaload, 1) := by decide +kernel
theorem dX7_worth_90 : decode cX7_worth 90 = .ok (.i2l, 1) := by decide +kernel
theorem dX7_worth_91 : decode cX7_worth 91 = .ok (.lreturn, 1) := by decide +kernel
theorem dX7_worth_92 : decode cX7_worth 92 = .ok (.lload_n 3, 1) := by decide +kernel
theorem dX7_worth_93 : decode cX7_worth 93 = .ok (.lreturn, 1) := by decide +kernel
theorem dX7_worth_94 : decode cX7_worth 94 = .ok (.aload_n 0, 1) := by decide +kernel
theorem dX7_worth_95 : decode cX7_worth 95 = .ok (.getfield 267, 3) := by decide +kernel
theorem dX7_worth_98 : decode cX7_worth 98 = .ok (.i2l, 1) := by decide +kernel
theorem dX7_worth_99 : decode cX7_worth 99 = .ok (.lreturn, 1) := by decide +kernel
theorem dX7_worth_100 : decode cX7_worth 100 = .ok (.aload_n 0, 1) := by decide +kernel
theorem dX7_worth_101 : decode cX7_worth 101 = .ok (.getfield 267, 3) := by decide +kernel
theorem dX7_worth_104 : decode cX7_worth 104 = .ok (.iconst 2, 1) := by decide +kernel
theorem dX7_worth_105 : decode cX7_worth 105 = .ok (.idiv, 1) := by decide +kernel
theorem dX7_worth_106 : decode cX7_worth 106 = .ok (.i2l, 1) := by decide +kernel
theorem dX7_worth_107 : decode cX7_worth 107 = .ok (.lreturn, 1) := by decide +kernel
theorem dX7_worth_108 : decode cX7_worth 108 = .ok (.aload_n 0, 1) := by decide +kernel
theorem dX7_worth_109 : decode cX7_worth 109 = .ok (.getfield 75, 3) := by decide +kernel
theorem dX7_worth_112 : decode cX7_worth 112 = .ok (.aload_n 0, 1) := by decide +kernel
theorem dX7_worth_113 : decode cX7_worth 113 = .ok (.getfield 50, 3) := by decide +kernel
theorem dX7_worth_116 : decode cX7_worth 116 = .ok (.iload_n 2, 1) := by decide +kernel
theorem dX7_worth_117 : decode cX7_worth 117 = .ok (.iaload, 1) := by decide +kernel
theorem dX7_worth_118 : decode cX7_worth 118 = .ok (.baload, 1) := by decide +kernel
theorem dX7_worth_119 : decode cX7_worth 119 = .ok (.ifCond .eq 7, 3) := by decide +kernel
theorem dX7_worth_122 : decode cX7_worth 122 = .ok (.lconst 1, 1) := by decide +kernel
theorem dX7_worth_123 : decode cX7_worth 123 = .ok (.goto 4, 3) := by decide +kernel
theorem dX7_worth_126 : decode cX7_worth 126 = .ok (.lconst 0, 1) := by decide +kernel
theorem dX7_worth_127 : decode cX7_worth 127 = .ok (.lreturn, 1) := by decide +kernel
theorem dX7_worth_128 : decode cX7_worth 128 = .ok (.lload 5, 2) := by decide +kernel
theorem dX7_worth_130 : decode cX7_worth 130 = .ok (.lreturn, 1) := by decide +kernel
theorem dX7_worth_131 : decode cX7_worth 131 = .ok (.aload_n 0, 1) := by decide +kernel
theorem dX7_worth_132 : decode cX7_worth 132 = .ok (.getfield 65, 3) := by decide +kernel
theorem dX7_worth_135 : decode cX7_worth 135 = .ok (.iload_n 2, 1) := by decide +kernel
theorem dX7_worth_136 : decode cX7_worth 136 = .ok (.iaload, 1) := by decide +kernel
theorem dX7_worth_137 : decode cX7_worth 137 = .ok (.ifCond .lt 7, 3) := by decide +kernel
theorem dX7_worth_140 : decode cX7_worth 140 = .ok (.lconst 1, 1) := by decide +kernel
theorem dX7_worth_141 : decode cX7_worth 141 = .ok (.goto 4, 3) := by decide +kernel
theorem dX7_worth_144 : decode cX7_worth 144 = .ok (.lconst 0, 1) := by decide +kernel
theorem dX7_worth_145 : decode cX7_worth 145 = .ok (.lreturn, 1) := by decide +kernel
theorem dX7_both_0 : decode cX7_both 0 = .ok (.iload_n 0, 1) := by decide +kernel
theorem dX7_both_1 : decode cX7_both 1 = .ok (.tableswitch 123 3 9 #[43, 61, 79, 91, 103, 115, 119], 43) := by decide +kernel
theorem dX7_both_44 : decode cX7_both 44 = .ok (.lload_n 1, 1) := by decide +kernel
theorem dX7_both_45 : decode cX7_both 45 = .ok (.lconst 0, 1) := by decide +kernel
theorem dX7_both_46 : decode cX7_both 46 = .ok (.lcmp, 1) := by decide +kernel
theorem dX7_both_47 : decode cX7_both 47 = .ok (.ifCond .eq 13, 3) := by decide +kernel
theorem dX7_both_50 : decode cX7_both 50 = .ok (.lload_n 3, 1) := by decide +kernel
theorem dX7_both_51 : decode cX7_both 51 = .ok (.lconst 0, 1) := by decide +kernel
theorem dX7_both_52 : decode cX7_both 52 = .ok (.lcmp, 1) := by decide +kernel
theorem dX7_both_53 : decode cX7_both 53 = .ok (.ifCond .eq 7, 3) := by decide +kernel
theorem dX7_both_56 : decode cX7_both 56 = .ok (.lconst 1, 1) := by decide +kernel
theorem dX7_both_57 : decode cX7_both 57 = .ok (.goto 4, 3) := by decide +kernel
theorem dX7_both_60 : decode cX7_both 60 = .ok (.lconst 0, 1) := by decide +kernel
theorem dX7_both_61 : decode cX7_both 61 = .ok (.lreturn, 1) := by decide +kernel
theorem dX7_both_62 : decode cX7_both 62 = .ok (.lload_n 1, 1) := by decide +kernel
theorem dX7_both_63 : decode cX7_both 63 = .ok (.lconst 0, 1) := by decide +kernel
theorem dX7_both_64 : decode cX7_both 64 = .ok (.lcmp, 1) := by decide +kernel
theorem dX7_both_65 : decode cX7_both 65 = .ok (.ifCond .ne 9, 3) := by decide +kernel
theorem dX7_both_68 : decode cX7_both 68 = .ok (.lload_n 3, 1) := by decide +kernel
theorem dX7_both_69 : decode cX7_both 69 = .ok (.lconst 0, 1) := by decide +kernel
theorem dX7_both_70 : decode cX7_both 70 = .ok (.lcmp, 1) := by decide +kernel
theorem dX7_both_71 : decode cX7_both 71 = .ok (.ifCond .eq 7, 3) := by decide +kernel
theorem dX7_both_74 : decode cX7_both 74 = .ok (.lconst 1, 1) := by decide +kernel
theorem dX7_both_75 : decode cX7_both 75 = .ok (.goto 4, 3) := by decide +kernel
theorem dX7_both_78 : decode cX7_both 78 = .ok (.lconst 0, 1) := by decide +kernel
theorem dX7_both_79 : decode cX7_both 79 = .ok (.lreturn, 1) := by decide +kernel
theorem dX7_both_80 : decode cX7_both 80 = .ok (.lload_n 1, 1) := by decide +kernel
theorem dX7_both_81 : decode cX7_both 81 = .ok (.lload_n 3, 1) := by decide +kernel
theorem dX7_both_82 : decode cX7_both 82 = .ok (.lcmp, 1) := by decide +kernel
theorem dX7_both_83 : decode cX7_both 83 = .ok (.ifCond .ge 7, 3) := by decide +kernel
theorem dX7_both_86 : decode cX7_both 86 = .ok (.lconst 1, 1) := by decide +kernel
theorem dX7_both_87 : decode cX7_both 87 = .ok (.goto 4, 3) := by decide +kernel
theorem dX7_both_90 : decode cX7_both 90 = .ok (.lconst 0, 1) := by decide +kernel
theorem dX7_both_91 : decode cX7_both 91 = .ok (.lreturn, 1) := by decide +kernel
theorem dX7_both_92 : decode cX7_both 92 = .ok (.lload_n 1, 1) := by decide +kernel
theorem dX7_both_93 : decode cX7_both 93 = .ok (.lload_n 3, 1) := by decide +kernel
theorem dX7_both_94 : decode cX7_both 94 = .ok (.lcmp, 1) := by decide +kernel
theorem dX7_both_95 : decode cX7_both 95 = .ok (.ifCond .ne 7, 3) := by decide +kernel
theorem dX7_both_98 : decode cX7_both 98 = .ok (.lconst 1, 1) := by decide +kernel
theorem dX7_both_99 : decode cX7_both 99 = .ok (.goto 4, 3) := by decide +kernel
theorem dX7_both_102 : decode cX7_both 102 = .ok (.lconst 0, 1) := by decide +kernel
theorem dX7_both_103 : decode cX7_both 103 = .ok (.lreturn, 1) := by decide +kernel
theorem dX7_both_104 : decode cX7_both 104 = .ok (.lload_n 1, 1) := by decide +kernel
theorem dX7_both_105 : decode cX7_both 105 = .ok (.lload_n 3, 1) := by decide +kernel
theorem dX7_both_106 : decode cX7_both 106 = .ok (.lcmp, 1) := by decide +kernel
theorem dX7_both_107 : decode cX7_both 107 = .ok (.ifCond .le 7, 3) := by decide +kernel
theorem dX7_both_110 : decode cX7_both 110 = .ok (.lconst 1, 1) := by decide +kernel
theorem dX7_both_111 : decode cX7_both 111 = .ok (.goto 4, 3) := by decide +kernel
theorem dX7_both_114 : decode cX7_both 114 = .ok (.lconst 0, 1) := by decide +kernel
theorem dX7_both_115 : decode cX7_both 115 = .ok (.lreturn, 1) := by decide +kernel
theorem dX7_both_116 : decode cX7_both 116 = .ok (.lload_n 1, 1) := by decide +kernel
theorem dX7_both_117 : decode cX7_both 117 = .ok (.lload_n 3, 1) := by decide +kernel
theorem dX7_both_118 : decode cX7_both 118 = .ok (.ladd, 1) := by decide +kernel
theorem dX7_both_119 : decode cX7_both 119 = .ok (.lreturn, 1) := by decide +kernel
theorem dX7_both_120 : decode cX7_both 120 = .ok (.lload_n 1, 1) := by decide +kernel
theorem dX7_both_121 : decode cX7_both 121 = .ok (.lload_n 3, 1) := by decide +kernel
theorem dX7_both_122 : decode cX7_both 122 = .ok (.lsub, 1) := by decide +kernel
theorem dX7_both_123 : decode cX7_both 123 = .ok (.lreturn, 1) := by decide +kernel
theorem dX7_both_124 : decode cX7_both 124 = .ok (.lload_n 1, 1) := by decide +kernel
theorem dX7_both_125 : decode cX7_both 125 = .ok (.lload_n 3, 1) := by decide +kernel
theorem dX7_both_126 : decode cX7_both 126 = .ok (.lmul, 1) := by decide +kernel
theorem dX7_both_127 : decode cX7_both 127 = .ok (.lreturn, 1) := by decide +kernel
set_option maxRecDepth 20000 in
theorem ggX7_holds_X7_worth : GoodIn wsX7_holds wsX7_worth := goodIn_r _ [11, 12, 13, 14, 15, 16, 17, 18, 19, 20, 21, 10, 22, 23, 27, 28, 29, 30, 31, 32, 33, 34, 35, 36, 37, 38, 39, 40, 41, 42, 43, 44, 45, 46, 47, 48, 49, 50, 51, 52, 53, 54, 55, 56, 57, 58, 59, 60, 61, 62, 63, 64, 65, 66, 67, 68, 69, 70, 71, 72, 73, 74, 75, 76, 77, 78, 79, 80, 81, 82] (by decide +kernel) (by decide +kernel)
set_option maxRecDepth 20000 in
theorem gX7_holds_X7_worth : GoodIn wsX7_holds (wsV RX7 296 RX7 yX7_worth wsX7_worth) := goodIn_app (goodIn_of _ (by decide +kernel)) ggX7_holds_X7_worth
set_option maxRecDepth 20000 in
theorem ggX7_holds_X7_both : GoodIn wsX7_holds wsX7_both := goodIn_r _ [26] (by decide +kernel) (by decide +kernel)
set_option maxRecDepth 20000 in
theorem gX7_holds_X7_both : GoodIn wsX7_holds (va_wsS RX7 300 yX7_both wsX7_both) := goodIn_app (goodIn_of _ (by decide +kernel)) ggX7_holds_X7_both
theorem dX7_holds_0 : decode cX7_holds 0 = .ok (.aload_n 0, 1) := by decide +kernel
theorem dX7_holds_1 : decode cX7_holds 1 = .ok (.getfield 23, 3) := by decide +kernel
theorem dX7_holds_4 : decode cX7_holds 4 = .ok (.iload_n 1, 1) := by decide +kernel
theorem dX7_holds_5 : decode cX7_holds 5 = .ok (.iaload, 1) := by decide +kernel
theorem dX7_holds_6 : decode cX7_holds 6 = .ok (.aload_n 0, 1) := by decide +kernel
theorem dX7_holds_7 : decode cX7_holds 7 = .ok (.getfield 26, 3) := by decide +kernel
theorem dX7_holds_10 : decode cX7_holds 10 = .ok (.iload_n 1, 1) := by decide +kernel
theorem dX7_holds_11 : decode cX7_holds 11 = .ok (.iaload, 1) := by decide +kernel
theorem dX7_holds_12 : decode cX7_holds 12 = .ok (.if_icmp .ne 5, 3) := by decide +kernel
theorem dX7_holds_15 : decode cX7_holds 15 = .ok (.iconst 1, 1) := by decide +kernel
theorem dX7_holds_16 : decode cX7_holds 16 = .ok (.ireturn, 1) := by decide +kernel
theorem dX7_holds_17 : decode cX7_holds 17 = .ok (.aload_n 0, 1) := by decide +kernel
theorem dX7_holds_18 : decode cX7_holds 18 = .ok (.iconst 0, 1) := by decide +kernel
theorem dX7_holds_19 : decode cX7_holds 19 = .ok (.putfield 293, 3) := by decide +kernel
theorem dX7_holds_22 : decode cX7_holds 22 = .ok (.aload_n 0, 1) := by decide +kernel
theorem dX7_holds_23 : decode cX7_holds 23 = .ok (.getfield 23, 3) := by decide +kernel
theorem dX7_holds_26 : decode cX7_holds 26 = .ok (.iload_n 1, 1) := by decide +kernel
theorem dX7_holds_27 : decode cX7_holds 27 = .ok (.iaload, 1) := by decide +kernel
theorem dX7_holds_28 : decode cX7_holds 28 = .ok (.istore 7, 2) := by decide +kernel
theorem dX7_holds_30 : decode cX7_holds 30 = .ok (.iload 7, 2) := by decide +kernel
theorem dX7_holds_32 : decode cX7_holds 32 = .ok (.aload_n 0, 1) := by decide +kernel
theorem dX7_holds_33 : decode cX7_holds 33 = .ok (.getfield 26, 3) := by decide +kernel
theorem dX7_holds_36 : decode cX7_holds 36 = .ok (.iload_n 1, 1) := by decide +kernel
theorem dX7_holds_37 : decode cX7_holds 37 = .ok (.iaload, 1) := by decide +kernel
theorem dX7_holds_38 : decode cX7_holds 38 = .ok (.if_icmp .ge 188, 3) := by decide +kernel
theorem dX7_holds_41 : decode cX7_holds 41 = .ok (.aload_n 0, 1) := by decide +kernel
theorem dX7_holds_42 : decode cX7_holds 42 = .ok (.getfield 29, 3) := by decide +kernel
theorem dX7_holds_45 : decode cX7_holds 45 = .ok (.iload 7, 2) := by decide +kernel
theorem dX7_holds_47 : decode cX7_holds 47 = .ok (.iaload, 1) := by decide +kernel
theorem dX7_holds_48 : decode cX7_holds 48 = .ok (.iconst 1, 1) := by decide +kernel
theorem dX7_holds_49 : decode cX7_holds 49 = .ok (.if_icmp .eq 15, 3) := by decide +kernel
theorem dX7_holds_52 : decode cX7_holds 52 = .ok (.aload_n 0, 1) := by decide +kernel
theorem dX7_holds_53 : decode cX7_holds 53 = .ok (.getfield 29, 3) := by decide +kernel
theorem dX7_holds_56 : decode cX7_holds 56 = .ok (.iload 7, 2) := by decide +kernel
theorem dX7_holds_58 : decode cX7_holds 58 = .ok (.iaload, 1) := by decide +kernel
theorem dX7_holds_59 : decode cX7_holds 59 = .ok (.bipush 111, 2) := by decide +kernel
theorem dX7_holds_61 : decode cX7_holds 61 = .ok (.if_icmp .lt 62, 3) := by decide +kernel
theorem dX7_holds_64 : decode cX7_holds 64 = .ok (.aload_n 0, 1) := by decide +kernel
theorem dX7_holds_65 : decode cX7_holds 65 = .ok (.getfield 82, 3) := by decide +kernel
theorem dX7_holds_68 : decode cX7_holds 68 = .ok (.aload_n 0, 1) := by decide +kernel
theorem dX7_holds_69 : decode cX7_holds 69 = .ok (.getfield 293, 3) := by decide +kernel
theorem dX7_holds_72 : decode cX7_holds 72 = .ok (.aload_n 0, 1) := by decide +kernel
theorem dX7_holds_73 : decode cX7_holds 73 = .ok (.getfield 29, 3) := by decide +kernel
theorem dX7_holds_76 : decode cX7_holds 76 = .ok (.iload 7, 2) := by decide +kernel
theorem dX7_holds_78 : decode cX7_holds 78 = .ok (.iaload, 1) := by decide +kernel
theorem dX7_holds_79 : decode cX7_holds 79 = .ok (.iconst 1, 1) := by decide +kernel
theorem dX7_holds_80 : decode cX7_holds 80 = .ok (.if_icmp .ne 14, 3) := by decide +kernel
theorem dX7_holds_83 : decode cX7_holds 83 = .ok (.aload_n 0, 1) := by decide +kernel
theorem dX7_holds_84 : decode cX7_holds 84 = .ok (.getfield 32, 3) := by decide +kernel
theorem dX7_holds_87 : decode cX7_holds 87 = .ok (.iload 7, 2) := by decide +kernel
theorem dX7_holds_89 : decode cX7_holds 89 = .ok (.iaload, 1) := by decide +kernel
theorem dX7_holds_90 : decode cX7_holds 90 = .ok (.i2l, 1) := by decide +kernel
theorem dX7_holds_91 : decode cX7_holds 91 = .ok (.goto 18, 3) := by decide +kernel
theorem dX7_holds_94 : decode cX7_holds 94 = .ok (.aload_n 0, 1) := by decide +kernel
theorem dX7_holds_95 : decode cX7_holds 95 = .ok (.aload_n 0, 1) := by decide +kernel
theorem dX7_holds_96 : decode cX7_holds 96 = .ok (.getfield 29, 3) := by decide +kernel
theorem dX7_holds_99 : decode cX7_holds 99 = .ok (.iload 7, 2) := by decide +kernel
theorem dX7_holds_101 : decode cX7_holds 101 = .ok (.iaload, 1) := by decide +kernel
theorem dX7_holds_102 : decode cX7_holds 102 = .ok (.iload_n 2, 1) := by decide +kernel
theorem dX7_holds_103 : decode cX7_holds 103 = .ok (.lload_n 3, 1) := by decide +kernel
theorem dX7_holds_104 : decode cX7_holds 104 = .ok (.lload 5, 2) := by decide +kernel
theorem dX7_holds_106 : decode cX7_holds 106 = .ok (.invokevirtual 296, 3) := by decide +kernel
theorem dX7_holds_109 : decode cX7_holds 109 = .ok (.lastore, 1) := by decide +kernel
theorem dX7_holds_110 : decode cX7_holds 110 = .ok (.aload_n 0, 1) := by decide +kernel
theorem dX7_holds_111 : decode cX7_holds 111 = .ok (.dup, 1) := by decide +kernel
theorem dX7_holds_112 : decode cX7_holds 112 = .ok (.getfield 293, 3) := by decide +kernel
theorem dX7_holds_115 : decode cX7_holds 115 = .ok (.iconst 1, 1) := by decide +kernel
theorem dX7_holds_116 : decode cX7_holds 116 = .ok (.iadd, 1) := by decide +kernel
theorem dX7_holds_117 : decode cX7_holds 117 = .ok (.putfield 293, 3) := by decide +kernel
theorem dX7_holds_120 : decode cX7_holds 120 = .ok (.goto 100, 3) := by decide +kernel
theorem dX7_holds_123 : decode cX7_holds 123 = .ok (.aload_n 0, 1) := by decide +kernel
theorem dX7_holds_124 : decode cX7_holds 124 = .ok (.getfield 29, 3) := by decide +kernel
theorem dX7_holds_127 : decode cX7_holds 127 = .ok (.iload 7, 2) := by decide +kernel
theorem dX7_holds_129 : decode cX7_holds 129 = .ok (.iaload, 1) := by decide +kernel
theorem dX7_holds_130 : decode cX7_holds 130 = .ok (.iconst 2, 1) := by decide +kernel
theorem dX7_holds_131 : decode cX7_holds 131 = .ok (.if_icmp .ne 38, 3) := by decide +kernel
theorem dX7_holds_134 : decode cX7_holds 134 = .ok (.aload_n 0, 1) := by decide +kernel
theorem dX7_holds_135 : decode cX7_holds 135 = .ok (.getfield 82, 3) := by decide +kernel
theorem dX7_holds_138 : decode cX7_holds 138 = .ok (.aload_n 0, 1) := by decide +kernel
theorem dX7_holds_139 : decode cX7_holds 139 = .ok (.getfield 293, 3) := by decide +kernel
theorem dX7_holds_142 : decode cX7_holds 142 = .ok (.iconst 1, 1) := by decide +kernel
theorem dX7_holds_143 : decode cX7_holds 143 = .ok (.isub, 1) := by decide +kernel
theorem dX7_holds_144 : decode cX7_holds 144 = .ok (.aload_n 0, 1) := by decide +kernel
theorem dX7_holds_145 : decode cX7_holds 145 = .ok (.getfield 82, 3) := by decide +kernel
theorem dX7_holds_148 : decode cX7_holds 148 = .ok (.aload_n 0, 1) := by decide +kernel
theorem dX7_holds_149 : decode cX7_holds 149 = .ok (.getfield 293, 3) := by decide +kernel
theorem dX7_holds_152 : decode cX7_holds 152 = .ok (.iconst 1, 1) := by decide +kernel
theorem dX7_holds_153 : decode cX7_holds 153 = .ok (.isub, 1) := by decide +kernel
theorem dX7_holds_154 : decode cX7_holds 154 = .ok (.laload, 1) := by decide +kernel
theorem dX7_holds_155 : decode cX7_holds 155 = .ok (.lconst 0, 1) := by decide +kernel
theorem dX7_holds_156 : decode cX7_holds 156 = .ok (.lcmp, 1) := by decide +kernel
theorem dX7_holds_157 : decode cX7_holds 157 = .ok (.ifCond .ne 7, 3) := by decide +kernel
theorem dX7_holds_160 : decode cX7_holds 160 = .ok (.lconst 1, 1) := by decide +kernel
theorem dX7_holds_161 : decode cX7_holds 161 = .ok (.goto 4, 3) := by decide +kernel
theorem dX7_holds_164 : decode cX7_holds 164 = .ok (.lconst 0, 1) := by decide +kernel
theorem dX7_holds_165 : decode cX7_holds 165 = .ok (.lastore, 1) := by decide +kernel
theorem dX7_holds_166 : decode cX7_holds 166 = .ok (.goto 54, 3) := by decide +kernel
theorem dX7_holds_169 : decode cX7_holds 169 = .ok (.aload_n 0, 1) := by decide +kernel
theorem dX7_holds_170 : decode cX7_holds 170 = .ok (.dup, 1) := by decide +kernel
theorem dX7_holds_171 : decode cX7_holds 171 = .ok (.getfield 293, 3) := by decide +kernel
theorem dX7_holds_174 : decode cX7_holds 174 = .ok (.iconst 1, 1) := by decide +kernel
theorem dX7_holds_175 : decode cX7_holds 175 = .ok (.isub, 1) := by decide +kernel
theorem dX7_holds_176 : decode cX7_holds 176 = .ok (.putfield 293, 3) := by decide +kernel
theorem dX7_holds_179 : decode cX7_holds 179 = .ok (.aload_n 0, 1) := by decide +kernel
theorem dX7_holds_180 : decode cX7_holds 180 = .ok (.getfield 82, 3) := by decide +kernel
theorem dX7_holds_183 : decode cX7_holds 183 = .ok (.aload_n 0, 1) := by decide +kernel
theorem dX7_holds_184 : decode cX7_holds 184 = .ok (.getfield 293, 3) := by decide +kernel
theorem dX7_holds_187 : decode cX7_holds 187 = .ok (.iconst 1, 1) := by decide +kernel
theorem dX7_holds_188 : decode cX7_holds 188 = .ok (.isub, 1) := by decide +kernel
theorem dX7_holds_189 : decode cX7_holds 189 = .ok (.aload_n 0, 1) := by decide +kernel
theorem dX7_holds_190 : decode cX7_holds 190 = .ok (.getfield 29, 3) := by decide +kernel
theorem dX7_holds_193 : decode cX7_holds 193 = .ok (.iload 7, 2) := by decide +kernel
theorem dX7_holds_195 : decode cX7_holds 195 = .ok (.iaload, 1) := by decide +kernel
theorem dX7_holds_196 : decode cX7_holds 196 = .ok (.aload_n 0, 1) := by decide +kernel
theorem dX7_holds_197 : decode cX7_holds 197 = .ok (.getfield 82, 3) := by decide +kernel
theorem dX7_holds_200 : decode cX7_holds 200 = .ok (.aload_n 0, 1) := by decide +kernel
theorem dX7_holds_201 : decode cX7_holds 201 = .ok (.getfield 293, 3) := by decide +kernel
theorem dX7_holds_204 : decode cX7_holds 204 = .ok (.iconst 1, 1) := by decide +kernel
theorem dX7_holds_205 : decode cX7_holds 205 = .ok (.isub, 1) := by decide +kernel
theorem dX7_holds_206 : decode cX7_holds 206 = .ok (.laload, 1) := by decide +kernel
theorem dX7_holds_207 : decode cX7_holds 207 = .ok (.aload_n 0, 1) := by decide +kernel
theorem dX7_holds_208 : decode cX7_holds 208 = .ok (.getfield 82, 3) := by decide +kernel
theorem dX7_holds_211 : decode cX7_holds 211 = .ok (.aload_n 0, 1) := by decide +kernel
theorem dX7_holds_212 : decode cX7_holds 212 = .ok (.getfield 293, 3) := by decide +kernel
theorem dX7_holds_215 : decode cX7_holds 215 = .ok (.laload, 1) := by decide +kernel
theorem dX7_holds_216 : decode cX7_holds 216 = .ok (.invokestatic 300, 3) := by decide +kernel
theorem dX7_holds_219 : decode cX7_holds 219 = .ok (.lastore, 1) := by decide +kernel
theorem dX7_holds_220 : decode cX7_holds 220 = .ok (.iinc 7 1, 3) := by decide +kernel
theorem dX7_holds_223 : decode cX7_holds 223 = .ok (.goto (-193), 3) := by decide +kernel
theorem dX7_holds_226 : decode cX7_holds 226 = .ok (.aload_n 0, 1) := by decide +kernel
theorem dX7_holds_227 : decode cX7_holds 227 = .ok (.getfield 82, 3) := by decide +kernel
theorem dX7_holds_230 : decode cX7_holds 230 = .ok (.iconst 0, 1) := by decide +kernel
theorem dX7_holds_231 : decode cX7_holds 231 = .ok (.laload, 1) := by decide +kernel
theorem dX7_holds_232 : decode cX7_holds 232 = .ok (.lconst 0, 1) := by decide +kernel
theorem dX7_holds_233 : decode cX7_holds 233 = .ok (.lcmp, 1) := by decide +kernel
theorem dX7_holds_234 : decode cX7_holds 234 = .ok (.ifCond .eq 7, 3) := by decide +kernel
theorem dX7_holds_237 : decode cX7_holds 237 = .ok (.iconst 1, 1) := by decide +kernel
theorem dX7_holds_238 : decode cX7_holds 238 = .ok (.goto 4, 3) := by decide +kernel
theorem dX7_holds_241 : decode cX7_holds 241 = .ok (.iconst 0, 1) := by decide +kernel
theorem dX7_holds_242 : decode cX7_holds 242 = .ok (.ireturn, 1) := by decide +kernel
set_option maxRecDepth 20000 in
theorem ggX7_first_X7_holds : GoodIn wsX7_first wsX7_holds := goodIn_r _ [6, 7, 8, 9, 10, 11, 12, 13, 14, 15, 5, 16, 17, 18, 19, 20, 21, 22, 23, 24, 25, 26, 27, 28, 29, 30, 31, 32, 33, 34, 35, 36, 37, 38, 39, 40, 41, 42, 43, 44, 45, 46, 47, 48, 49, 50, 51, 52, 53, 54, 55, 56, 57, 58, 59, 60, 61, 62, 63, 64, 65, 66, 67, 68, 69, 70, 71, 72, 73, 74, 75, 76, 77, 78, 79, 80, 81, 82, 83, 84, 85, 86, 87] (by decide +kernel) (by decide +kernel)
set_option maxRecDepth 20000 in
theorem gX7_first_X7_holds : GoodIn wsX7_first (wsV RX7 304 RX7 yX7_holds wsX7_holds) := goodIn_app (goodIn_of _ (by decide +kernel)) ggX7_first_X7_holds
theorem dX7_first_0 : decode cX7_first 0 = .ok (.iconst 0, 1) := by decide +kernel
theorem dX7_first_1 : decode cX7_first 1 = .ok (.istore 7, 2) := by decide +kernel
theorem dX7_first_3 : decode cX7_first 3 = .ok (.iload_n 1, 1) := by decide +kernel
theorem dX7_first_4 : decode cX7_first 4 = .ok (.ifCond .lt 41, 3) := by decide +kernel
theorem dX7_first_7 : decode cX7_first 7 = .ok (.iload 7, 2) := by decide +kernel
theorem dX7_first_9 : decode cX7_first 9 = .ok (.aload_n 0, 1) := by decide +kernel
theorem dX7_first_10 : decode cX7_first 10 = .ok (.getfield 13, 3) := by decide +kernel
theorem dX7_first_13 : decode cX7_first 13 = .ok (.iload_n 1, 1) := by decide +kernel
theorem dX7_first_14 : decode cX7_first 14 = .ok (.iaload, 1) := by decide +kernel
theorem dX7_first_15 : decode cX7_first 15 = .ok (.if_icmp .ge 30, 3) := by decide +kernel
theorem dX7_first_18 : decode cX7_first 18 = .ok (.aload_n 0, 1) := by decide +kernel
theorem dX7_first_19 : decode cX7_first 19 = .ok (.bipush 40, 2) := by decide +kernel
theorem dX7_first_21 : decode cX7_first 21 = .ok (.iload_n 1, 1) := by decide +kernel
theorem dX7_first_22 : decode cX7_first 22 = .ok (.imul, 1) := by decide +kernel
theorem dX7_first_23 : decode cX7_first 23 = .ok (.iload 7, 2) := by decide +kernel
theorem dX7_first_25 : decode cX7_first 25 = .ok (.iadd, 1) := by decide +kernel
theorem dX7_first_26 : decode cX7_first 26 = .ok (.iload_n 2, 1) := by decide +kernel
theorem dX7_first_27 : decode cX7_first 27 = .ok (.lload_n 3, 1) := by decide +kernel
theorem dX7_first_28 : decode cX7_first 28 = .ok (.lload 5, 2) := by decide +kernel
theorem dX7_first_30 : decode cX7_first 30 = .ok (.invokevirtual 304, 3) := by decide +kernel
theorem dX7_first_33 : decode cX7_first 33 = .ok (.ifCond .eq 6, 3) := by decide +kernel
theorem dX7_first_36 : decode cX7_first 36 = .ok (.iload 7, 2) := by decide +kernel
theorem dX7_first_38 : decode cX7_first 38 = .ok (.ireturn, 1) := by decide +kernel
theorem dX7_first_39 : decode cX7_first 39 = .ok (.iinc 7 1, 3) := by decide +kernel
theorem dX7_first_42 : decode cX7_first 42 = .ok (.goto (-39), 3) := by decide +kernel
theorem dX7_first_45 : decode cX7_first 45 = .ok (.bipush (-2), 2) := by decide +kernel
theorem dX7_first_47 : decode cX7_first 47 = .ok (.ireturn, 1) := by decide +kernel
set_option maxRecDepth 20000 in
theorem ggX7_would_X7_isText : GoodIn wsX7_would wsX7_isText := goodIn_r _ [7, 8, 9, 10, 6, 11, 49, 50, 51, 52, 53, 54, 55, 56, 57, 58, 59, 60, 61, 62, 63, 64, 65, 66, 67, 68, 69, 70, 71, 72, 73, 74, 75, 76, 77, 78, 79, 80, 81, 82, 83, 84, 85, 86, 87, 88, 89, 90, 91, 92, 93, 94, 95, 96, 97, 98, 99, 100, 101, 102, 103, 104] (by decide +kernel) (by decide +kernel)
set_option maxRecDepth 20000 in
theorem gX7_would_X7_isText : GoodIn wsX7_would (wsV RX7 264 RX7 yX7_isText wsX7_isText) := goodIn_app (goodIn_of _ (by decide +kernel)) ggX7_would_X7_isText
set_option maxRecDepth 20000 in
theorem ggX7_would_X7_isDebt : GoodIn wsX7_would wsX7_isDebt := goodIn_r _ [15, 16, 9, 10, 6, 11, 49, 50, 51, 52, 53, 54, 55, 56, 57, 58, 59, 60, 61, 62, 63, 64, 65, 66, 67, 68, 69, 70, 71, 72, 73, 74, 75, 76, 77, 78, 79, 80, 81, 82, 83, 84, 85, 86, 87, 88, 89, 90, 91, 92, 93, 94, 95, 96, 97, 98, 99, 100, 101, 102, 103, 104] (by decide +kernel) (by decide +kernel)
set_option maxRecDepth 20000 in
theorem gX7_would_X7_isDebt : GoodIn wsX7_would (wsV RX7 308 RX7 yX7_isDebt wsX7_isDebt) := goodIn_app (goodIn_of _ (by decide +kernel)) ggX7_would_X7_isDebt
set_option maxRecDepth 20000 in
theorem ggX7_would_X7_in : GoodIn wsX7_would wsX7_in := goodIn_r _ [11] (by decide +kernel) (by decide +kernel)
set_option maxRecDepth 20000 in
theorem gX7_would_X7_in : GoodIn wsX7_would (va_wsS RX7 132 yX7_in wsX7_in) := goodIn_app (goodIn_of _ (by decide +kernel)) ggX7_would_X7_in
set_option maxRecDepth 20000 in
theorem ggX7_would_X7_first : GoodIn wsX7_would wsX7_first := goodIn_r _ [20, 21, 22, 23, 24, 6, 25, 26, 27, 28, 29, 30, 31, 32, 33, 34, 35, 1, 36, 37, 38, 39, 40, 41, 42, 43, 44, 45, 16, 46, 47, 48, 49, 50, 51, 52, 53, 54, 55, 56, 57, 58, 59, 60, 61, 62, 63, 64, 65, 66, 67, 68, 69, 70, 71, 72, 73, 74, 75, 76, 77, 78, 79, 80, 81, 82, 83, 84, 85, 86, 87, 88, 89, 90, 91, 92, 93, 94, 95, 96, 97, 98, 99, 100, 101, 102, 103, 104] (by decide +kernel) (by decide +kernel)
set_option maxRecDepth 20000 in
theorem gX7_would_X7_first : GoodIn wsX7_would (wsV RX7 312 RX7 yX7_first wsX7_first) := goodIn_app (goodIn_of _ (by decide +kernel)) ggX7_would_X7_first
theorem dX7_would_0 : decode cX7_would 0 = .ok (.aload_n 0, 1) := by decide +kernel
theorem dX7_would_1 : decode cX7_would 1 = .ok (.iload_n 1, 1) := by decide +kernel
theorem dX7_would_2 : decode cX7_would 2 = .ok (.invokevirtual 264, 3) := by decide +kernel
theorem dX7_would_5 : decode cX7_would 5 = .ok (.ifCond .eq 31, 3) := by decide +kernel
theorem dX7_would_8 : decode cX7_would 8 = .ok (.aload_n 0, 1) := by decide +kernel
theorem dX7_would_9 : decode cX7_would 9 = .ok (.iload_n 2, 1) := by decide +kernel
theorem dX7_would_10 : decode cX7_would 10 = .ok (.invokevirtual 308, 3) := by decide +kernel
theorem dX7_would_13 : decode cX7_would 13 = .ok (.ifCond .eq 23, 3) := by decide +kernel
theorem dX7_would_16 : decode cX7_would 16 = .ok (.aload_n 0, 1) := by decide +kernel
theorem dX7_would_17 : decode cX7_would 17 = .ok (.getfield 59, 3) := by decide +kernel
theorem dX7_would_20 : decode cX7_would 20 = .ok (.iload_n 2, 1) := by decide +kernel
theorem dX7_would_21 : decode cX7_would 21 = .ok (.iaload, 1) := by decide +kernel
theorem dX7_would_22 : decode cX7_would 22 = .ok (.ifCond .eq 14, 3) := by decide +kernel
theorem dX7_would_25 : decode cX7_would 25 = .ok (.iload_n 3, 1) := by decide +kernel
theorem dX7_would_26 : decode cX7_would 26 = .ok (.iconst 0, 1) := by decide +kernel
theorem dX7_would_27 : decode cX7_would 27 = .ok (.ldc_w 311, 3) := by decide +kernel
theorem dX7_would_30 : decode cX7_would 30 = .ok (.invokestatic 132, 3) := by decide +kernel
theorem dX7_would_33 : decode cX7_would 33 = .ok (.ifCond .ne 7, 3) := by decide +kernel
theorem dX7_would_36 : decode cX7_would 36 = .ok (.iconst (-1), 1) := by decide +kernel
theorem dX7_would_37 : decode cX7_would 37 = .ok (.goto 12, 3) := by decide +kernel
theorem dX7_would_40 : decode cX7_would 40 = .ok (.aload_n 0, 1) := by decide +kernel
theorem dX7_would_41 : decode cX7_would 41 = .ok (.iload_n 1, 1) := by decide +kernel
theorem dX7_would_42 : decode cX7_would 42 = .ok (.iload_n 2, 1) := by decide +kernel
theorem dX7_would_43 : decode cX7_would 43 = .ok (.iload_n 3, 1) := by decide +kernel
theorem dX7_would_44 : decode cX7_would 44 = .ok (.i2l, 1) := by decide +kernel
theorem dX7_would_45 : decode cX7_would 45 = .ok (.lconst 0, 1) := by decide +kernel
theorem dX7_would_46 : decode cX7_would 46 = .ok (.invokevirtual 312, 3) := by decide +kernel
theorem dX7_would_49 : decode cX7_would 49 = .ok (.ireturn, 1) := by decide +kernel
set_option maxRecDepth 20000 in
theorem ggX7_come_X7_isPerson : GoodIn wsX7_come wsX7_isPerson := goodIn_r _ [15, 16, 17, 14, 18] (by decide +kernel) (by decide +kernel)
set_option maxRecDepth 20000 in
theorem gX7_come_X7_isPerson : GoodIn wsX7_come (va_wsS RX7 281 yX7_isPerson wsX7_isPerson) := goodIn_app (goodIn_of _ (by decide +kernel)) ggX7_come_X7_isPerson
set_option maxRecDepth 20000 in
theorem ggX7_come_X7_in : GoodIn wsX7_come wsX7_in := goodIn_r _ [18] (by decide +kernel) (by decide +kernel)
set_option maxRecDepth 20000 in
theorem gX7_come_X7_in : GoodIn wsX7_come (va_wsS RX7 132 yX7_in wsX7_in) := goodIn_app (goodIn_of _ (by decide +kernel)) ggX7_come_X7_in
set_option maxRecDepth 20000 in
theorem ggX7_come_X7_owedOf : GoodIn wsX7_come wsX7_owedOf := goodIn_r _ [22, 8, 10, 11, 79, 80, 81, 82, 83, 84, 85, 86, 87, 88, 89, 90, 91, 92, 93, 94, 95, 96, 97, 98, 99, 100, 101, 102, 103, 104, 105, 106, 107, 108, 109, 110, 111, 112, 113, 114, 115, 116, 117, 118, 119, 120, 121, 122, 123, 124, 125, 126, 127, 128, 129, 130, 131, 132, 133, 134] (by decide +kernel) (by decide +kernel)
set_option maxRecDepth 20000 in
theorem gX7_come_X7_owedOf : GoodIn wsX7_come (wsV RX7 316 RX7 yX7_owedOf wsX7_owedOf) := goodIn_app (goodIn_of _ (by decide +kernel)) ggX7_come_X7_owedOf
set_option maxRecDepth 20000 in
theorem ggX7_come_X7_forceAt : GoodIn wsX7_come wsX7_forceAt := goodIn_r _ [26, 27, 28, 29, 79, 80, 81, 82, 83, 84, 85, 86, 87, 88, 89, 90, 91, 92, 93, 94, 95, 96, 97, 98, 99, 100, 101, 102, 103, 104, 105, 106, 107, 108, 109, 110, 111, 112, 113, 114, 115, 116, 117, 118, 119, 120, 121, 122, 123, 124, 125, 126, 127, 128, 129, 130, 131, 132, 133, 134] (by decide +kernel) (by decide +kernel)
set_option maxRecDepth 20000 in
theorem gX7_come_X7_forceAt : GoodIn wsX7_come (wsV RX7 273 RX7 yX7_forceAt wsX7_forceAt) := goodIn_app (goodIn_of _ (by decide +kernel)) ggX7_come_X7_forceAt
set_option maxRecDepth 20000 in
theorem ggX7_come_X7_ask : GoodIn wsX7_come wsX7_ask := goodIn_r _ [33, 34, 11, 35, 36, 4, 37, 3, 38, 39, 40, 41, 42, 43, 44, 5, 45, 46, 47, 48, 49, 10, 50, 51, 52, 53, 14, 54, 55, 56, 57, 58, 59, 60, 61, 62, 63, 64, 65, 66, 67, 68, 69, 70, 71, 72, 73, 74, 75, 8, 76, 77, 78, 79, 80, 81, 82, 83, 84, 85, 86, 87, 88, 89, 90, 91, 92, 93, 94, 95, 96, 97, 98, 99, 100, 101, 102, 103, 104, 105, 106, 107, 108, 109, 110, 111, 112, 113, 114, 115, 116, 117, 118, 119, 120, 121, 122, 123, 124, 125, 126, 127, 128, 129, 130, 131, 132, 133, 134] (by decide +kernel) (by decide +kernel)
set_option maxRecDepth 20000 in
theorem gX7_come_X7_ask : GoodIn wsX7_come (wsV RX7 329 RX7 yX7_ask wsX7_ask) := goodIn_app (goodIn_of _ (by decide +kernel)) ggX7_come_X7_ask
theorem dX7_come_0 : decode cX7_come 0 = .ok (.iload_n 1, 1) := by decide +kernel
theorem dX7_come_1 : decode cX7_come 1 = .ok (.invokestatic 281, 3) := by decide +kernel
theorem dX7_come_4 : decode cX7_come 4 = .ok (.ifCond .eq 14, 3) := by decide +kernel
theorem dX7_come_7 : decode cX7_come 7 = .ok (.iload_n 2, 1) := by decide +kernel
theorem dX7_come_8 : decode cX7_come 8 = .ok (.iconst 0, 1) := by decide +kernel
theorem dX7_come_9 : decode cX7_come 9 = .ok (.ldc_w 284, 3) := by decide +kernel
theorem dX7_come_12 : decode cX7_come 12 = .ok (.invokestatic 132, 3) := by decide +kernel
theorem dX7_come_15 : decode cX7_come 15 = .ok (.ifCond .ne 5, 3) := by decide +kernel
theorem dX7_come_18 : decode cX7_come 18 = .ok (.iconst (-1), 1) := by decide +kernel
theorem dX7_come_19 : decode cX7_come 19 = .ok (.ireturn, 1) := by decide +kernel
theorem dX7_come_20 : decode cX7_come 20 = .ok (.aload_n 0, 1) := by decide +kernel
theorem dX7_come_21 : decode cX7_come 21 = .ok (.getfield 79, 3) := by decide +kernel
theorem dX7_come_24 : decode cX7_come 24 = .ok (.iload_n 1, 1) := by decide +kernel
theorem dX7_come_25 : decode cX7_come 25 = .ok (.iaload, 1) := by decide +kernel
theorem dX7_come_26 : decode cX7_come 26 = .ok (.aload_n 0, 1) := by decide +kernel
theorem dX7_come_27 : decode cX7_come 27 = .ok (.getfield 267, 3) := by decide +kernel
theorem dX7_come_30 : decode cX7_come 30 = .ok (.if_icmp .ne 6, 3) := by decide +kernel
theorem dX7_come_33 : decode cX7_come 33 = .ok (.bipush (-2), 2) := by decide +kernel
theorem dX7_come_35 : decode cX7_come 35 = .ok (.ireturn, 1) := by decide +kernel
theorem dX7_come_36 : decode cX7_come 36 = .ok (.aload_n 0, 1) := by decide +kernel
theorem dX7_come_37 : decode cX7_come 37 = .ok (.iload_n 1, 1) := by decide +kernel
theorem dX7_come_38 : decode cX7_come 38 = .ok (.invokevirtual 316, 3) := by decide +kernel
theorem dX7_come_41 : decode cX7_come 41 = .ok (.istore_n 3, 1) := by decide +kernel
theorem dX7_come_42 : decode cX7_come 42 = .ok (.aload_n 0, 1) := by decide +kernel
theorem dX7_come_43 : decode cX7_come 43 = .ok (.getfield 319, 3) := by decide +kernel
theorem dX7_come_46 : decode cX7_come 46 = .ok (.iload_n 3, 1) := by decide +kernel
theorem dX7_come_47 : decode cX7_come 47 = .ok (.iadd, 1) := by decide +kernel
theorem dX7_come_48 : decode cX7_come 48 = .ok (.sipush 4000, 3) := by decide +kernel
theorem dX7_come_51 : decode cX7_come 51 = .ok (.if_icmp .gt 15, 3) := by decide +kernel
theorem dX7_come_54 : decode cX7_come 54 = .ok (.aload_n 0, 1) := by decide +kernel
theorem dX7_come_55 : decode cX7_come 55 = .ok (.getfield 322, 3) := by decide +kernel
theorem dX7_come_58 : decode cX7_come 58 = .ok (.iload_n 3, 1) := by decide +kernel
theorem dX7_come_59 : decode cX7_come 59 = .ok (.iadd, 1) := by decide +kernel
theorem dX7_come_60 : decode cX7_come 60 = .ok (.sipush 2000, 3) := by decide +kernel
theorem dX7_come_63 : decode cX7_come 63 = .ok (.if_icmp .le 6, 3) := by decide +kernel
theorem dX7_come_66 : decode cX7_come 66 = .ok (.bipush (-3), 2) := by decide +kernel
theorem dX7_come_68 : decode cX7_come 68 = .ok (.ireturn, 1) := by decide +kernel
theorem dX7_come_69 : decode cX7_come 69 = .ok (.aload_n 0, 1) := by decide +kernel
theorem dX7_come_70 : decode cX7_come 70 = .ok (.getfield 79, 3) := by decide +kernel
theorem dX7_come_73 : decode cX7_come 73 = .ok (.iload_n 1, 1) := by decide +kernel
theorem dX7_come_74 : decode cX7_come 74 = .ok (.aload_n 0, 1) := by decide +kernel
theorem dX7_come_75 : decode cX7_come 75 = .ok (.getfield 267, 3) := by decide +kernel
theorem dX7_come_78 : decode cX7_come 78 = .ok (.iastore, 1) := by decide +kernel
theorem dX7_come_79 : decode cX7_come 79 = .ok (.aload_n 0, 1) := by decide +kernel
theorem dX7_come_80 : decode cX7_come 80 = .ok (.dup, 1) := by decide +kernel
theorem dX7_come_81 : decode cX7_come 81 = .ok (.getfield 325, 3) := by decide +kernel
theorem dX7_come_84 : decode cX7_come 84 = .ok (.iload_n 2, 1) := by decide +kernel
theorem dX7_come_85 : decode cX7_come 85 = .ok (.i2l, 1) := by decide +kernel
theorem dX7_come_86 : decode cX7_come 86 = .ok (.ladd, 1) := by decide +kernel
theorem dX7_come_87 : decode cX7_come 87 = .ok (.putfield 325, 3) := by decide +kernel
theorem dX7_come_90 : decode cX7_come 90 = .ok (.iload_n 2, 1) := by decide +kernel
theorem dX7_come_91 : decode cX7_come 91 = .ok (.i2l, 1) := by decide +kernel
theorem dX7_come_92 : decode cX7_come 92 = .ok (.aload_n 0, 1) := by decide +kernel
theorem dX7_come_93 : decode cX7_come 93 = .ok (.getfield 71, 3) := by decide +kernel
theorem dX7_come_96 : decode cX7_come 96 = .ok (.iload_n 1, 1) := by decide +kernel
theorem dX7_come_97 : decode cX7_come 97 = .ok (.laload, 1) := by decide +kernel
theorem dX7_come_98 : decode cX7_come 98 = .ok (.ladd, 1) := by decide +kernel
theorem dX7_come_99 : decode cX7_come 99 = .ok (.lstore 4, 2) := by decide +kernel
theorem dX7_come_101 : decode cX7_come 101 = .ok (.aload_n 0, 1) := by decide +kernel
theorem dX7_come_102 : decode cX7_come 102 = .ok (.getfield 71, 3) := by decide +kernel
theorem dX7_come_105 : decode cX7_come 105 = .ok (.iload_n 1, 1) := by decide +kernel
theorem dX7_come_106 : decode cX7_come 106 = .ok (.lconst 0, 1) := by decide +kernel
theorem dX7_come_107 : decode cX7_come 107 = .ok (.lastore, 1) := by decide +kernel
theorem dX7_come_108 : decode cX7_come 108 = .ok (.lconst 0, 1) := by decide +kernel
theorem dX7_come_109 : decode cX7_come 109 = .ok (.lstore 6, 2) := by decide +kernel
theorem dX7_come_111 : decode cX7_come 111 = .ok (.aload_n 0, 1) := by decide +kernel
theorem dX7_come_112 : decode cX7_come 112 = .ok (.aload_n 0, 1) := by decide +kernel
theorem dX7_come_113 : decode cX7_come 113 = .ok (.getfield 267, 3) := by decide +kernel
theorem dX7_come_116 : decode cX7_come 116 = .ok (.invokevirtual 273, 3) := by decide +kernel
theorem dX7_come_119 : decode cX7_come 119 = .ok (.istore 8, 2) := by decide +kernel
theorem dX7_come_121 : decode cX7_come 121 = .ok (.iconst 0, 1) := by decide +kernel
theorem dX7_come_122 : decode cX7_come 122 = .ok (.istore 9, 2) := by decide +kernel
theorem dX7_come_124 : decode cX7_come 124 = .ok (.iconst 0, 1) := by decide +kernel
theorem dX7_come_125 : decode cX7_come 125 = .ok (.istore 10, 2) := by decide +kernel
theorem dX7_come_127 : decode cX7_come 127 = .ok (.iload 10, 2) := by decide +kernel
theorem dX7_come_129 : decode cX7_come 129 = .ok (.aload_n 0, 1) := by decide +kernel
theorem dX7_come_130 : decode cX7_come 130 = .ok (.getfield 277, 3) := by decide +kernel
theorem dX7_come_133 : decode cX7_come 133 = .ok (.if_icmp .ge 42, 3) := by decide +kernel
theorem dX7_come_136 : decode cX7_come 136 = .ok (.aload_n 0, 1) := by decide +kernel
theorem dX7_come_137 : decode cX7_come 137 = .ok (.getfield 115, 3) := by decide +kernel
theorem dX7_come_140 : decode cX7_come 140 = .ok (.iload 10, 2) := by decide +kernel
theorem dX7_come_142 : decode cX7_come 142 = .ok (.aload_n 0, 1) := by decide +kernel
theorem dX7_come_143 : decode cX7_come 143 = .ok (.getfield 50, 3) := by decide +kernel
theorem dX7_come_146 : decode cX7_come 146 = .ok (.iload 10, 2) := by decide +kernel
theorem dX7_come_148 : decode cX7_come 148 = .ok (.iaload, 1) := by decide +kernel
theorem dX7_come_149 : decode cX7_come 149 = .ok (.iload_n 1, 1) := by decide +kernel
theorem dX7_come_150 : decode cX7_come 150 = .ok (.if_icmp .ne 17, 3) := by decide +kernel
theorem dX7_come_153 : decode cX7_come 153 = .ok (.aload_n 0, 1) := by decide +kernel
theorem dX7_come_154 : decode cX7_come 154 = .ok (.getfield 59, 3) := by decide +kernel
theorem dX7_come_157 : decode cX7_come 157 = .ok (.iload 10, 2) := by decide +kernel
theorem dX7_come_159 : decode cX7_come 159 = .ok (.iaload, 1) := by decide +kernel
theorem dX7_come_160 : decode cX7_come 160 = .ok (.ifCond .le 7, 3) := by decide +kernel
theorem dX7_come_163 : decode cX7_come 163 = .ok (.iconst 1, 1) := by decide +kernel
theorem dX7_come_164 : decode cX7_come 164 = .ok (.goto 4, 3) := by decide +kernel
theorem dX7_come_167 : decode cX7_come 167 = .ok (.iconst 0, 1) := by decide +kernel
theorem dX7_come_168 : decode cX7_come 168 = .ok (.bastore, 1) := by decide +kernel
theorem dX7_come_169 : decode cX7_come 169 = .ok (.iinc 10 1, 3) := by decide +kernel
theorem dX7_come_172 : decode cX7_come 172 = .ok (.goto (-45), 3) := by decide +kernel
theorem dX7_come_175 : decode cX7_come 175 = .ok (.iconst 0, 1) := by decide +kernel
theorem dX7_come_176 : decode cX7_come 176 = .ok (.istore 10, 2) := by decide +kernel
theorem dX7_come_178 : decode cX7_come 178 = .ok (.iload 10, 2) := by decide +kernel
theorem dX7_come_180 : decode cX7_come 180 = .ok (.aload_n 0, 1) := by decide +kernel
theorem dX7_come_181 : decode cX7_come 181 = .ok (.getfield 277, 3) := by decide +kernel
theorem dX7_come_184 : decode cX7_come 184 = .ok (.if_icmp .ge 77, 3) := by decide +kernel
theorem dX7_come_187 : decode cX7_come 187 = .ok (.aload_n 0, 1) := by decide +kernel
theorem dX7_come_188 : decode cX7_come 188 = .ok (.getfield 115, 3) := by decide +kernel
theorem dX7_come_191 : decode cX7_come 191 = .ok (.iload 10, 2) := by decide +kernel
theorem dX7_come_193 : decode cX7_come 193 = .ok (.baload, 1) := by decide +kernel
theorem dX7_come_194 : decode cX7_come 194 = .ok (.ifCond .eq 61, 3) := by decide +kernel
theorem dX7_come_197 : decode cX7_come 197 = .ok (.aload_n 0, 1) := by decide +kernel
theorem dX7_come_198 : decode cX7_come 198 = .ok (.getfield 50, 3) := by decide +kernel
theorem dX7_come_201 : decode cX7_come 201 = .ok (.iload 10, 2) := by decide +kernel
theorem dX7_come_203 : decode cX7_come 203 = .ok (.iaload, 1) := by decide +kernel
theorem dX7_come_204 : decode cX7_come 204 = .ok (.iload_n 1, 1) := by decide +kernel
theorem dX7_come_205 : decode cX7_come 205 = .ok (.if_icmp .ne 50, 3) := by decide +kernel
theorem dX7_come_208 : decode cX7_come 208 = .ok (.aload_n 0, 1) := by decide +kernel
theorem dX7_come_209 : decode cX7_come 209 = .ok (.getfield 59, 3) := by decide +kernel
theorem dX7_come_212 : decode cX7_come 212 = .ok (.iload 10, 2) := by decide +kernel
theorem dX7_come_214 : decode cX7_come 214 = .ok (.iaload, 1) := by decide +kernel
theorem dX7_come_215 : decode cX7_come 215 = .ok (.ifCond .ne 6, 3) := by decide +kernel
theorem dX7_come_218 : decode cX7_come 218 = .ok (.goto 37, 3) := by decide +kernel
theorem dX7_come_221 : decode cX7_come 221 = .ok (.aload_n 0, 1) := by decide +kernel
theorem dX7_come_222 : decode cX7_come 222 = .ok (.iload_n 1, 1) := by decide +kernel
theorem dX7_come_223 : decode cX7_come 223 = .ok (.iload 10, 2) := by decide +kernel
theorem dX7_come_225 : decode cX7_come 225 = .ok (.iload 8, 2) := by decide +kernel
theorem dX7_come_227 : decode cX7_come 227 = .ok (.lload 4, 2) := by decide +kernel
theorem dX7_come_229 : decode cX7_come 229 = .ok (.lload 6, 2) := by decide +kernel
theorem dX7_come_231 : decode cX7_come 231 = .ok (.invokevirtual 329, 3) := by decide +kernel
theorem dX7_come_234 : decode cX7_come 234 = .ok (.istore 11, 2) := by decide +kernel
theorem dX7_come_236 : decode cX7_come 236 = .ok (.lload 4, 2) := by decide +kernel
theorem dX7_come_238 : decode cX7_come 238 = .ok (.iload 11, 2) := by decide +kernel
theorem dX7_come_240 : decode cX7_come 240 = .ok (.i2l, 1) := by decide +kernel
theorem dX7_come_241 : decode cX7_come 241 = .ok (.lsub, 1) := by decide +kernel
theorem dX7_come_242 : decode cX7_come 242 = .ok (.lstore 4, 2) := by decide +kernel
theorem dX7_come_244 : decode cX7_come 244 = .ok (.lload 6, 2) := by decide +kernel
theorem dX7_come_246 : decode cX7_come 246 = .ok (.iload 11, 2) := by decide +kernel
theorem dX7_come_248 : decode cX7_come 248 = .ok (.i2l, 1) := by decide +kernel
theorem dX7_come_249 : decode cX7_come 249 = .ok (.ladd, 1) := by decide +kernel
theorem dX7_come_250 : decode cX7_come 250 = .ok (.lstore 6, 2) := by decide +kernel
theorem dX7_come_252 : decode cX7_come 252 = .ok (.iinc 9 1, 3) := by decide +kernel
theorem dX7_come_255 : decode cX7_come 255 = .ok (.iinc 10 1, 3) := by decide +kernel
theorem dX7_come_258 : decode cX7_come 258 = .ok (.goto (-80), 3) := by decide +kernel
theorem dX7_come_261 : decode cX7_come 261 = .ok (.aload_n 0, 1) := by decide +kernel
theorem dX7_come_262 : decode cX7_come 262 = .ok (.getfield 71, 3) := by decide +kernel
theorem dX7_come_265 : decode cX7_come 265 = .ok (.iload_n 1, 1) := by decide +kernel
theorem dX7_come_266 : decode cX7_come 266 = .ok (.dup2, 1) := by decide +kernel
theorem dX7_come_267 : decode cX7_come 267 = .ok (.laload, 1) := by decide +kernel
theorem dX7_come_268 : decode cX7_come 268 = .ok (.lload 4, 2) := by decide +kernel
theorem dX7_come_270 : decode cX7_come 270 = .ok (.ladd, 1) := by decide +kernel
theorem dX7_come_271 : decode cX7_come 271 = .ok (.lastore, 1) := by decide +kernel
theorem dX7_come_272 : decode cX7_come 272 = .ok (.iload 9, 2) := by decide +kernel
theorem dX7_come_274 : decode cX7_come 274 = .ok (.ireturn, 1) := by decide +kernel
set_option maxRecDepth 20000 in
theorem ggX7_ask_X7_first : GoodIn wsX7_ask wsX7_first := goodIn_r _ [27, 28, 29, 30, 31, 26, 32, 33, 34, 35, 36, 37, 38, 39, 40, 41, 42, 2, 21, 7, 43, 44, 22, 20, 45, 46, 47, 48, 49, 50, 51, 52, 53, 54, 55, 56, 57, 58, 59, 60, 61, 62, 63, 64, 65, 66, 67, 68, 69, 70, 71, 72, 73, 74, 75, 76, 77, 78, 79, 80, 81, 82, 83, 84, 85, 86, 87, 88, 89, 90, 91, 92, 93, 94, 95, 96, 97, 98, 99, 100, 101, 102, 103, 104, 105, 106, 107, 108] (by decide +kernel) (by decide +kernel)
set_option maxRecDepth 20000 in
theorem gX7_ask_X7_first : GoodIn wsX7_ask (wsV RX7 312 RX7 yX7_first wsX7_first) := goodIn_app (goodIn_of _ (by decide +kernel)) ggX7_ask_X7_first
theorem dX7_ask_0 : decode cX7_ask 0 = .ok (.aload_n 0, 1) := by decide +kernel
theorem dX7_ask_1 : decode cX7_ask 1 = .ok (.iload_n 3, 1) := by decide +kernel
theorem dX7_ask_2 : decode cX7_ask 2 = .ok (.iload_n 2, 1) := by decide +kernel
theorem dX7_ask_3 : decode cX7_ask 3 = .ok (.lload 4, 2) := by decide +kernel
theorem dX7_ask_5 : decode cX7_ask 5 = .ok (.lload 6, 2) := by decide +kernel
theorem dX7_ask_7 : decode cX7_ask 7 = .ok (.invokevirtual 312, 3) := by decide +kernel
theorem dX7_ask_10 : decode cX7_ask 10 = .ok (.istore 8, 2) := by decide +kernel
theorem dX7_ask_12 : decode cX7_ask 12 = .ok (.bipush 40, 2) := by decide +kernel
theorem dX7_ask_14 : decode cX7_ask 14 = .ok (.iload_n 3, 1) := by decide +kernel
theorem dX7_ask_15 : decode cX7_ask 15 = .ok (.imul, 1) := by decide +kernel
theorem dX7_ask_16 : decode cX7_ask 16 = .ok (.iload 8, 2) := by decide +kernel
theorem dX7_ask_18 : decode cX7_ask 18 = .ok (.iadd, 1) := by decide +kernel
theorem dX7_ask_19 : decode cX7_ask 19 = .ok (.istore 9, 2) := by decide +kernel
theorem dX7_ask_21 : decode cX7_ask 21 = .ok (.iload 8, 2) := by decide +kernel
theorem dX7_ask_23 : decode cX7_ask 23 = .ok (.ifCond .ge 7, 3) := by decide +kernel
theorem dX7_ask_26 : decode cX7_ask 26 = .ok (.iconst 2, 1) := by decide +kernel
theorem dX7_ask_27 : decode cX7_ask 27 = .ok (.goto 41, 3) := by decide +kernel
theorem dX7_ask_30 : decode cX7_ask 30 = .ok (.aload_n 0, 1) := by decide +kernel
theorem dX7_ask_31 : decode cX7_ask 31 = .ok (.getfield 17, 3) := by decide +kernel
theorem dX7_ask_34 : decode cX7_ask 34 = .ok (.iload 9, 2) := by decide +kernel
theorem dX7_ask_36 : decode cX7_ask 36 = .ok (.iaload, 1) := by decide +kernel
theorem dX7_ask_37 : decode cX7_ask 37 = .ok (.ifCond .ne 7, 3) := by decide +kernel
theorem dX7_ask_40 : decode cX7_ask 40 = .ok (.iconst 0, 1) := by decide +kernel
theorem dX7_ask_41 : decode cX7_ask 41 = .ok (.goto 27, 3) := by decide +kernel
theorem dX7_ask_44 : decode cX7_ask 44 = .ok (.aload_n 0, 1) := by decide +kernel
theorem dX7_ask_45 : decode cX7_ask 45 = .ok (.getfield 17, 3) := by decide +kernel
theorem dX7_ask_48 : decode cX7_ask 48 = .ok (.iload 9, 2) := by decide +kernel
theorem dX7_ask_50 : decode cX7_ask 50 = .ok (.iaload, 1) := by decide +kernel
theorem dX7_ask_51 : decode cX7_ask 51 = .ok (.iconst 5, 1) := by decide +kernel
theorem dX7_ask_52 : decode cX7_ask 52 = .ok (.if_icmp .ne 7, 3) := by decide +kernel
theorem dX7_ask_55 : decode cX7_ask 55 = .ok (.iconst 1, 1) := by decide +kernel
theorem dX7_ask_56 : decode cX7_ask 56 = .ok (.goto 12, 3) := by decide +kernel
theorem dX7_ask_59 : decode cX7_ask 59 = .ok (.aload_n 0, 1) := by decide +kernel
theorem dX7_ask_60 : decode cX7_ask 60 = .ok (.getfield 17, 3) := by decide +kernel
theorem dX7_ask_63 : decode cX7_ask 63 = .ok (.iload 9, 2) := by decide +kernel
theorem dX7_ask_65 : decode cX7_ask 65 = .ok (.iaload, 1) := by decide +kernel
theorem dX7_ask_66 : decode cX7_ask 66 = .ok (.iconst 1, 1) := by decide +kernel
theorem dX7_ask_67 : decode cX7_ask 67 = .ok (.iadd, 1) := by decide +kernel
theorem dX7_ask_68 : decode cX7_ask 68 = .ok (.istore 10, 2) := by decide +kernel
theorem dX7_ask_70 : decode cX7_ask 70 = .ok (.iload 10, 2) := by decide +kernel
theorem dX7_ask_72 : decode cX7_ask 72 = .ok (.ifCond .ne 13, 3) := by decide +kernel
theorem dX7_ask_75 : decode cX7_ask 75 = .ok (.aload_n 0, 1) := by decide +kernel
theorem dX7_ask_76 : decode cX7_ask 76 = .ok (.getfield 59, 3) := by decide +kernel
theorem dX7_ask_79 : decode cX7_ask 79 = .ok (.iload_n 2, 1) := by decide +kernel
theorem dX7_ask_80 : decode cX7_ask 80 = .ok (.iaload, 1) := by decide +kernel
theorem dX7_ask_81 : decode cX7_ask 81 = .ok (.i2l, 1) := by decide +kernel
theorem dX7_ask_82 : decode cX7_ask 82 = .ok (.goto 33, 3) := by decide +kernel
theorem dX7_ask_85 : decode cX7_ask 85 = .ok (.iload 10, 2) := by decide +kernel
theorem dX7_ask_87 : decode cX7_ask 87 = .ok (.iconst 1, 1) := by decide +kernel
theorem dX7_ask_88 : decode cX7_ask 88 = .ok (.if_icmp .ne 26, 3) := by decide +kernel
theorem dX7_ask_91 : decode cX7_ask 91 = .ok (.aload_n 0, 1) := by decide +kernel
theorem dX7_ask_92 : decode cX7_ask 92 = .ok (.getfield 59, 3) := by decide +kernel
theorem dX7_ask_95 : decode cX7_ask 95 = .ok (.iload_n 2, 1) := by decide +kernel
theorem dX7_ask_96 : decode cX7_ask 96 = .ok (.iaload, 1) := by decide +kernel
theorem dX7_ask_97 : decode cX7_ask 97 = .ok (.i2l, 1) := by decide +kernel
theorem dX7_ask_98 : decode cX7_ask 98 = .ok (.aload_n 0, 1) := by decide +kernel
theorem dX7_ask_99 : decode cX7_ask 99 = .ok (.getfield 20, 3) := by decide +kernel
theorem dX7_ask_102 : decode cX7_ask 102 = .ok (.iload 9, 2) := by decide +kernel
theorem dX7_ask_104 : decode cX7_ask 104 = .ok (.iaload, 1) := by decide +kernel
theorem dX7_ask_105 : decode cX7_ask 105 = .ok (.i2l, 1) := by decide +kernel
theorem dX7_ask_106 : decode cX7_ask 106 = .ok (.lmul, 1) := by decide +kernel
theorem dX7_ask_107 : decode cX7_ask 107 = .ok (.ldc2_w 333, 3) := by decide +kernel
theorem dX7_ask_110 : decode cX7_ask 110 = .ok (.ldiv, 1) := by decide +kernel
theorem dX7_ask_111 : decode cX7_ask 111 = .ok (.goto 4, 3) := by decide +kernel
theorem dX7_ask_114 : decode cX7_ask 114 = .ok (.lconst 0, 1) := by decide +kernel
theorem dX7_ask_115 : decode cX7_ask 115 = .ok (.lstore 11, 2) := by decide +kernel
theorem dX7_ask_117 : decode cX7_ask 117 = .ok (.lload 11, 2) := by decide +kernel
theorem dX7_ask_119 : decode cX7_ask 119 = .ok (.lload 4, 2) := by decide +kernel
theorem dX7_ask_121 : decode cX7_ask 121 = .ok (.lcmp, 1) := by decide +kernel
theorem dX7_ask_122 : decode cX7_ask 122 = .ok (.ifCond .ge 8, 3) := by decide +kernel
theorem dX7_ask_125 : decode cX7_ask 125 = .ok (.lload 11, 2) := by decide +kernel
theorem dX7_ask_127 : decode cX7_ask 127 = .ok (.goto 5, 3) := by decide +kernel
theorem dX7_ask_130 : decode cX7_ask 130 = .ok (.lload 4, 2) := by decide +kernel
theorem dX7_ask_132 : decode cX7_ask 132 = .ok (.l2i, 1) := by decide +kernel
theorem dX7_ask_133 : decode cX7_ask 133 = .ok (.istore 13, 2) := by decide +kernel
theorem dX7_ask_135 : decode cX7_ask 135 = .ok (.aload_n 0, 1) := by decide +kernel
theorem dX7_ask_136 : decode cX7_ask 136 = .ok (.getfield 319, 3) := by decide +kernel
theorem dX7_ask_139 : decode cX7_ask 139 = .ok (.istore 14, 2) := by decide +kernel
theorem dX7_ask_141 : decode cX7_ask 141 = .ok (.aload_n 0, 1) := by decide +kernel
theorem dX7_ask_142 : decode cX7_ask 142 = .ok (.getfield 85, 3) := by decide +kernel
theorem dX7_ask_145 : decode cX7_ask 145 = .ok (.iload 14, 2) := by decide +kernel
theorem dX7_ask_147 : decode cX7_ask 147 = .ok (.aload_n 0, 1) := by decide +kernel
theorem dX7_ask_148 : decode cX7_ask 148 = .ok (.getfield 267, 3) := by decide +kernel
theorem dX7_ask_151 : decode cX7_ask 151 = .ok (.iastore, 1) := by decide +kernel
theorem dX7_ask_152 : decode cX7_ask 152 = .ok (.aload_n 0, 1) := by decide +kernel
theorem dX7_ask_153 : decode cX7_ask 153 = .ok (.getfield 88, 3) := by decide +kernel
theorem dX7_ask_156 : decode cX7_ask 156 = .ok (.iload 14, 2) := by decide +kernel
theorem dX7_ask_158 : decode cX7_ask 158 = .ok (.iload_n 1, 1) := by decide +kernel
theorem dX7_ask_159 : decode cX7_ask 159 = .ok (.iastore, 1) := by decide +kernel
theorem dX7_ask_160 : decode cX7_ask 160 = .ok (.aload_n 0, 1) := by decide +kernel
theorem dX7_ask_161 : decode cX7_ask 161 = .ok (.getfield 91, 3) := by decide +kernel
theorem dX7_ask_164 : decode cX7_ask 164 = .ok (.iload 14, 2) := by decide +kernel
theorem dX7_ask_166 : decode cX7_ask 166 = .ok (.iload_n 2, 1) := by decide +kernel
theorem dX7_ask_167 : decode cX7_ask 167 = .ok (.iastore, 1) := by decide +kernel
theorem dX7_ask_168 : decode cX7_ask 168 = .ok (.aload_n 0, 1) := by decide +kernel
theorem dX7_ask_169 : decode cX7_ask 169 = .ok (.getfield 94, 3) := by decide +kernel
theorem dX7_ask_172 : decode cX7_ask 172 = .ok (.iload 14, 2) := by decide +kernel
theorem dX7_ask_174 : decode cX7_ask 174 = .ok (.iload 10, 2) := by decide +kernel
theorem dX7_ask_176 : decode cX7_ask 176 = .ok (.iastore, 1) := by decide +kernel
theorem dX7_ask_177 : decode cX7_ask 177 = .ok (.aload_n 0, 1) := by decide +kernel
theorem dX7_ask_178 : decode cX7_ask 178 = .ok (.getfield 97, 3) := by decide +kernel
theorem dX7_ask_181 : decode cX7_ask 181 = .ok (.iload 14, 2) := by decide +kernel
theorem dX7_ask_183 : decode cX7_ask 183 = .ok (.iload 13, 2) := by decide +kernel
theorem dX7_ask_185 : decode cX7_ask 185 = .ok (.iastore, 1) := by decide +kernel
theorem dX7_ask_186 : decode cX7_ask 186 = .ok (.aload_n 0, 1) := by decide +kernel
theorem dX7_ask_187 : decode cX7_ask 187 = .ok (.getfield 100, 3) := by decide +kernel
theorem dX7_ask_190 : decode cX7_ask 190 = .ok (.iload 14, 2) := by decide +kernel
theorem dX7_ask_192 : decode cX7_ask 192 = .ok (.iload 8, 2) := by decide +kernel
theorem dX7_ask_194 : decode cX7_ask 194 = .ok (.ifCond .ge 7, 3) := by decide +kernel
theorem dX7_ask_197 : decode cX7_ask 197 = .ok (.iconst (-1), 1) := by decide +kernel
theorem dX7_ask_198 : decode cX7_ask 198 = .ok (.goto 5, 3) := by decide +kernel
theorem dX7_ask_201 : decode cX7_ask 201 = .ok (.iload 8, 2) := by decide +kernel
theorem dX7_ask_203 : decode cX7_ask 203 = .ok (.iastore, 1) := by decide +kernel
theorem dX7_ask_204 : decode cX7_ask 204 = .ok (.aload_n 0, 1) := by decide +kernel
theorem dX7_ask_205 : decode cX7_ask 205 = .ok (.getfield 103, 3) := by decide +kernel
theorem dX7_ask_208 : decode cX7_ask 208 = .ok (.iload 14, 2) := by decide +kernel
theorem dX7_ask_210 : decode cX7_ask 210 = .ok (.iload_n 3, 1) := by decide +kernel
theorem dX7_ask_211 : decode cX7_ask 211 = .ok (.iastore, 1) := by decide +kernel
theorem dX7_ask_212 : decode cX7_ask 212 = .ok (.aload_n 0, 1) := by decide +kernel
theorem dX7_ask_213 : decode cX7_ask 213 = .ok (.getfield 106, 3) := by decide +kernel
theorem dX7_ask_216 : decode cX7_ask 216 = .ok (.iload 14, 2) := by decide +kernel
theorem dX7_ask_218 : decode cX7_ask 218 = .ok (.iload 13, 2) := by decide +kernel
theorem dX7_ask_220 : decode cX7_ask 220 = .ok (.ifCond .le 10, 3) := by decide +kernel
theorem dX7_ask_223 : decode cX7_ask 223 = .ok (.aload_n 0, 1) := by decide +kernel
theorem dX7_ask_224 : decode cX7_ask 224 = .ok (.getfield 322, 3) := by decide +kernel
theorem dX7_ask_227 : decode cX7_ask 227 = .ok (.goto 4, 3) := by decide +kernel
theorem dX7_ask_230 : decode cX7_ask 230 = .ok (.iconst (-1), 1) := by decide +kernel
theorem dX7_ask_231 : decode cX7_ask 231 = .ok (.iastore, 1) := by decide +kernel
theorem dX7_ask_232 : decode cX7_ask 232 = .ok (.aload_n 0, 1) := by decide +kernel
theorem dX7_ask_233 : decode cX7_ask 233 = .ok (.getfield 109, 3) := by decide +kernel
theorem dX7_ask_236 : decode cX7_ask 236 = .ok (.iload 14, 2) := by decide +kernel
theorem dX7_ask_238 : decode cX7_ask 238 = .ok (.iload 10, 2) := by decide +kernel
theorem dX7_ask_240 : decode cX7_ask 240 = .ok (.iconst 3, 1) := by decide +kernel
theorem dX7_ask_241 : decode cX7_ask 241 = .ok (.if_icmp .ne 12, 3) := by decide +kernel
theorem dX7_ask_244 : decode cX7_ask 244 = .ok (.aload_n 0, 1) := by decide +kernel
theorem dX7_ask_245 : decode cX7_ask 245 = .ok (.getfield 59, 3) := by decide +kernel
theorem dX7_ask_248 : decode cX7_ask 248 = .ok (.iload_n 2, 1) := by decide +kernel
theorem dX7_ask_249 : decode cX7_ask 249 = .ok (.iaload, 1) := by decide +kernel
theorem dX7_ask_250 : decode cX7_ask 250 = .ok (.goto 5, 3) := by decide +kernel
theorem dX7_ask_253 : decode cX7_ask 253 = .ok (.iload 13, 2) := by decide +kernel
theorem dX7_ask_255 : decode cX7_ask 255 = .ok (.iastore, 1) := by decide +kernel
theorem dX7_ask_256 : decode cX7_ask 256 = .ok (.aload_n 0, 1) := by decide +kernel
theorem dX7_ask_257 : decode cX7_ask 257 = .ok (.dup, 1) := by decide +kernel
theorem dX7_ask_258 : decode cX7_ask 258 = .ok (.getfield 319, 3) := by decide +kernel
theorem dX7_ask_261 : decode cX7_ask 261 = .ok (.iconst 1, 1) := by decide +kernel
theorem dX7_ask_262 : decode cX7_ask 262 = .ok (.iadd, 1) := by decide +kernel
theorem dX7_ask_263 : decode cX7_ask 263 = .ok (.putfield 319, 3) := by decide +kernel
theorem dX7_ask_266 : decode cX7_ask 266 = .ok (.iload 13, 2) := by decide +kernel
theorem dX7_ask_268 : decode cX7_ask 268 = .ok (.ifCond .le 47, 3) := by decide +kernel
theorem dX7_ask_271 : decode cX7_ask 271 = .ok (.aload_n 0, 1) := by decide +kernel
theorem dX7_ask_272 : decode cX7_ask 272 = .ok (.getfield 112, 3) := by decide +kernel
theorem dX7_ask_275 : decode cX7_ask 275 = .ok (.aload_n 0, 1) := by decide +kernel
theorem dX7_ask_276 : decode cX7_ask 276 = .ok (.getfield 322, 3) := by decide +kernel
theorem dX7_ask_279 : decode cX7_ask 279 = .ok (.iload 13, 2) := by decide +kernel
theorem dX7_ask_281 : decode cX7_ask 281 = .ok (.iastore, 1) := by decide +kernel
theorem dX7_ask_282 : decode cX7_ask 282 = .ok (.aload_n 0, 1) := by decide +kernel
theorem dX7_ask_283 : decode cX7_ask 283 = .ok (.dup, 1) := by decide +kernel
theorem dX7_ask_284 : decode cX7_ask 284 = .ok (.getfield 322, 3) := by decide +kernel
theorem dX7_ask_287 : decode cX7_ask 287 = .ok (.iconst 1, 1) := by decide +kernel
theorem dX7_ask_288 : decode cX7_ask 288 = .ok (.iadd, 1) := by decide +kernel
theorem dX7_ask_289 : decode cX7_ask 289 = .ok (.putfield 322, 3) := by decide +kernel
theorem dX7_ask_292 : decode cX7_ask 292 = .ok (.aload_n 0, 1) := by decide +kernel
theorem dX7_ask_293 : decode cX7_ask 293 = .ok (.dup, 1) := by decide +kernel
theorem dX7_ask_294 : decode cX7_ask 294 = .ok (.getfield 335, 3) := by decide +kernel
theorem dX7_ask_297 : decode cX7_ask 297 = .ok (.iload 13, 2) := by decide +kernel
theorem dX7_ask_299 : decode cX7_ask 299 = .ok (.i2l, 1) := by decide +kernel
theorem dX7_ask_300 : decode cX7_ask 300 = .ok (.ladd, 1) := by decide +kernel
theorem dX7_ask_301 : decode cX7_ask 301 = .ok (.putfield 335, 3) := by decide +kernel
theorem dX7_ask_304 : decode cX7_ask 304 = .ok (.aload_n 0, 1) := by decide +kernel
theorem dX7_ask_305 : decode cX7_ask 305 = .ok (.getfield 59, 3) := by decide +kernel
theorem dX7_ask_308 : decode cX7_ask 308 = .ok (.iload_n 2, 1) := by decide +kernel
theorem dX7_ask_309 : decode cX7_ask 309 = .ok (.dup2, 1) := by decide +kernel
theorem dX7_ask_310 : decode cX7_ask 310 = .ok (.iaload, 1) := by decide +kernel
