set_option maxRecDepth 20000 in
theorem gX7_statement_X7_in : GoodIn wsX7_statement (va_wsS RX7 132 yX7_in wsX7_in) := goodIn_app (goodIn_of _ (by decide +kernel)) ggX7_statement_X7_in
theorem dX7_statement_0 : decode cX7_statement 0 = .ok (.aload_n 0, 1) := by decide +kernel
theorem dX7_statement_1 : decode cX7_statement 1 = .ok (.getfield 13, 3) := by decide +kernel
theorem dX7_statement_4 : decode cX7_statement 4 = .ok (.iload_n 1, 1) := by decide +kernel
theorem dX7_statement_5 : decode cX7_statement 5 = .ok (.iaload, 1) := by decide +kernel
theorem dX7_statement_6 : decode cX7_statement 6 = .ok (.bipush 40, 2) := by decide +kernel
theorem dX7_statement_8 : decode cX7_statement 8 = .ok (.if_icmp .ne 8, 3) := by decide +kernel
theorem dX7_statement_11 : decode cX7_statement 11 = .ok (.aload_n 0, 1) := by decide +kernel
theorem dX7_statement_12 : decode cX7_statement 12 = .ok (.invokevirtual 211, 3) := by decide +kernel
theorem dX7_statement_15 : decode cX7_statement 15 = .ok (.return_, 1) := by decide +kernel
theorem dX7_statement_16 : decode cX7_statement 16 = .ok (.bipush 40, 2) := by decide +kernel
theorem dX7_statement_18 : decode cX7_statement 18 = .ok (.iload_n 1, 1) := by decide +kernel
theorem dX7_statement_19 : decode cX7_statement 19 = .ok (.imul, 1) := by decide +kernel
theorem dX7_statement_20 : decode cX7_statement 20 = .ok (.aload_n 0, 1) := by decide +kernel
theorem dX7_statement_21 : decode cX7_statement 21 = .ok (.getfield 13, 3) := by decide +kernel
theorem dX7_statement_24 : decode cX7_statement 24 = .ok (.iload_n 1, 1) := by decide +kernel
theorem dX7_statement_25 : decode cX7_statement 25 = .ok (.iaload, 1) := by decide +kernel
theorem dX7_statement_26 : decode cX7_statement 26 = .ok (.iadd, 1) := by decide +kernel
theorem dX7_statement_27 : decode cX7_statement 27 = .ok (.istore_n 2, 1) := by decide +kernel
theorem dX7_statement_28 : decode cX7_statement 28 = .ok (.aload_n 0, 1) := by decide +kernel
theorem dX7_statement_29 : decode cX7_statement 29 = .ok (.getfield 23, 3) := by decide +kernel
theorem dX7_statement_32 : decode cX7_statement 32 = .ok (.iload_n 2, 1) := by decide +kernel
theorem dX7_statement_33 : decode cX7_statement 33 = .ok (.aload_n 0, 1) := by decide +kernel
theorem dX7_statement_34 : decode cX7_statement 34 = .ok (.getfield 217, 3) := by decide +kernel
theorem dX7_statement_37 : decode cX7_statement 37 = .ok (.iastore, 1) := by decide +kernel
theorem dX7_statement_38 : decode cX7_statement 38 = .ok (.aload_n 0, 1) := by decide +kernel
theorem dX7_statement_39 : decode cX7_statement 39 = .ok (.getfield 142, 3) := by decide +kernel
theorem dX7_statement_42 : decode cX7_statement 42 = .ok (.bipush 106, 2) := by decide +kernel
theorem dX7_statement_44 : decode cX7_statement 44 = .ok (.if_icmp .ne 18, 3) := by decide +kernel
theorem dX7_statement_47 : decode cX7_statement 47 = .ok (.aload_n 0, 1) := by decide +kernel
theorem dX7_statement_48 : decode cX7_statement 48 = .ok (.invokevirtual 214, 3) := by decide +kernel
theorem dX7_statement_51 : decode cX7_statement 51 = .ok (.aload_n 0, 1) := by decide +kernel
theorem dX7_statement_52 : decode cX7_statement 52 = .ok (.invokevirtual 226, 3) := by decide +kernel
theorem dX7_statement_55 : decode cX7_statement 55 = .ok (.aload_n 0, 1) := by decide +kernel
theorem dX7_statement_56 : decode cX7_statement 56 = .ok (.bipush 107, 2) := by decide +kernel
theorem dX7_statement_58 : decode cX7_statement 58 = .ok (.invokevirtual 229, 3) := by decide +kernel
theorem dX7_statement_61 : decode cX7_statement 61 = .ok (.istore_n 3, 1) := by decide +kernel
theorem dX7_statement_62 : decode cX7_statement 62 = .ok (.aload_n 0, 1) := by decide +kernel
theorem dX7_statement_63 : decode cX7_statement 63 = .ok (.getfield 26, 3) := by decide +kernel
theorem dX7_statement_66 : decode cX7_statement 66 = .ok (.iload_n 2, 1) := by decide +kernel
theorem dX7_statement_67 : decode cX7_statement 67 = .ok (.aload_n 0, 1) := by decide +kernel
theorem dX7_statement_68 : decode cX7_statement 68 = .ok (.getfield 217, 3) := by decide +kernel
theorem dX7_statement_71 : decode cX7_statement 71 = .ok (.iastore, 1) := by decide +kernel
theorem dX7_statement_72 : decode cX7_statement 72 = .ok (.aload_n 0, 1) := by decide +kernel
theorem dX7_statement_73 : decode cX7_statement 73 = .ok (.getfield 208, 3) := by decide +kernel
theorem dX7_statement_76 : decode cX7_statement 76 = .ok (.ifCond .lt 4, 3) := by decide +kernel
theorem dX7_statement_79 : decode cX7_statement 79 = .ok (.return_, 1) := by decide +kernel
theorem dX7_statement_80 : decode cX7_statement 80 = .ok (.aload_n 0, 1) := by decide +kernel
theorem dX7_statement_81 : decode cX7_statement 81 = .ok (.getfield 142, 3) := by decide +kernel
theorem dX7_statement_84 : decode cX7_statement 84 = .ok (.bipush 100, 2) := by decide +kernel
theorem dX7_statement_86 : decode cX7_statement 86 = .ok (.bipush 105, 2) := by decide +kernel
theorem dX7_statement_88 : decode cX7_statement 88 = .ok (.invokestatic 132, 3) := by decide +kernel
theorem dX7_statement_91 : decode cX7_statement 91 = .ok (.ifCond .ne 8, 3) := by decide +kernel
theorem dX7_statement_94 : decode cX7_statement 94 = .ok (.aload_n 0, 1) := by decide +kernel
theorem dX7_statement_95 : decode cX7_statement 95 = .ok (.invokevirtual 211, 3) := by decide +kernel
theorem dX7_statement_98 : decode cX7_statement 98 = .ok (.return_, 1) := by decide +kernel
theorem dX7_statement_99 : decode cX7_statement 99 = .ok (.aload_n 0, 1) := by decide +kernel
theorem dX7_statement_100 : decode cX7_statement 100 = .ok (.getfield 17, 3) := by decide +kernel
theorem dX7_statement_103 : decode cX7_statement 103 = .ok (.iload_n 2, 1) := by decide +kernel
theorem dX7_statement_104 : decode cX7_statement 104 = .ok (.aload_n 0, 1) := by decide +kernel
theorem dX7_statement_105 : decode cX7_statement 105 = .ok (.getfield 142, 3) := by decide +kernel
theorem dX7_statement_108 : decode cX7_statement 108 = .ok (.bipush 100, 2) := by decide +kernel
theorem dX7_statement_110 : decode cX7_statement 110 = .ok (.isub, 1) := by decide +kernel
theorem dX7_statement_111 : decode cX7_statement 111 = .ok (.iastore, 1) := by decide +kernel
theorem dX7_statement_112 : decode cX7_statement 112 = .ok (.aload_n 0, 1) := by decide +kernel
theorem dX7_statement_113 : decode cX7_statement 113 = .ok (.getfield 142, 3) := by decide +kernel
theorem dX7_statement_116 : decode cX7_statement 116 = .ok (.bipush 105, 2) := by decide +kernel
theorem dX7_statement_118 : decode cX7_statement 118 = .ok (.if_icmp .ne 7, 3) := by decide +kernel
theorem dX7_statement_121 : decode cX7_statement 121 = .ok (.iconst 1, 1) := by decide +kernel
theorem dX7_statement_122 : decode cX7_statement 122 = .ok (.goto 4, 3) := by decide +kernel
theorem dX7_statement_125 : decode cX7_statement 125 = .ok (.iconst 0, 1) := by decide +kernel
theorem dX7_statement_126 : decode cX7_statement 126 = .ok (.istore_n 3, 1) := by decide +kernel
theorem dX7_statement_127 : decode cX7_statement 127 = .ok (.aload_n 0, 1) := by decide +kernel
theorem dX7_statement_128 : decode cX7_statement 128 = .ok (.invokevirtual 214, 3) := by decide +kernel
theorem dX7_statement_131 : decode cX7_statement 131 = .ok (.aload_n 0, 1) := by decide +kernel
theorem dX7_statement_132 : decode cX7_statement 132 = .ok (.getfield 20, 3) := by decide +kernel
theorem dX7_statement_135 : decode cX7_statement 135 = .ok (.iload_n 2, 1) := by decide +kernel
theorem dX7_statement_136 : decode cX7_statement 136 = .ok (.iconst 0, 1) := by decide +kernel
theorem dX7_statement_137 : decode cX7_statement 137 = .ok (.iastore, 1) := by decide +kernel
theorem dX7_statement_138 : decode cX7_statement 138 = .ok (.iload_n 3, 1) := by decide +kernel
theorem dX7_statement_139 : decode cX7_statement 139 = .ok (.ifCond .eq 53, 3) := by decide +kernel
theorem dX7_statement_142 : decode cX7_statement 142 = .ok (.aload_n 0, 1) := by decide +kernel
theorem dX7_statement_143 : decode cX7_statement 143 = .ok (.getfield 142, 3) := by decide +kernel
theorem dX7_statement_146 : decode cX7_statement 146 = .ok (.bipush 50, 2) := by decide +kernel
theorem dX7_statement_148 : decode cX7_statement 148 = .ok (.if_icmp .ne 25, 3) := by decide +kernel
theorem dX7_statement_151 : decode cX7_statement 151 = .ok (.aload_n 0, 1) := by decide +kernel
theorem dX7_statement_152 : decode cX7_statement 152 = .ok (.getfield 163, 3) := by decide +kernel
theorem dX7_statement_155 : decode cX7_statement 155 = .ok (.bipush 6, 2) := by decide +kernel
theorem dX7_statement_157 : decode cX7_statement 157 = .ok (.if_icmp .gt 16, 3) := by decide +kernel
theorem dX7_statement_160 : decode cX7_statement 160 = .ok (.aload_n 0, 1) := by decide +kernel
theorem dX7_statement_161 : decode cX7_statement 161 = .ok (.getfield 160, 3) := by decide +kernel
theorem dX7_statement_164 : decode cX7_statement 164 = .ok (.iconst 1, 1) := by decide +kernel
theorem dX7_statement_165 : decode cX7_statement 165 = .ok (.bipush 100, 2) := by decide +kernel
theorem dX7_statement_167 : decode cX7_statement 167 = .ok (.invokestatic 132, 3) := by decide +kernel
theorem dX7_statement_170 : decode cX7_statement 170 = .ok (.ifCond .ne 8, 3) := by decide +kernel
theorem dX7_statement_173 : decode cX7_statement 173 = .ok (.aload_n 0, 1) := by decide +kernel
theorem dX7_statement_174 : decode cX7_statement 174 = .ok (.invokevirtual 211, 3) := by decide +kernel
theorem dX7_statement_177 : decode cX7_statement 177 = .ok (.return_, 1) := by decide +kernel
theorem dX7_statement_178 : decode cX7_statement 178 = .ok (.aload_n 0, 1) := by decide +kernel
theorem dX7_statement_179 : decode cX7_statement 179 = .ok (.getfield 20, 3) := by decide +kernel
theorem dX7_statement_182 : decode cX7_statement 182 = .ok (.iload_n 2, 1) := by decide +kernel
theorem dX7_statement_183 : decode cX7_statement 183 = .ok (.aload_n 0, 1) := by decide +kernel
theorem dX7_statement_184 : decode cX7_statement 184 = .ok (.getfield 160, 3) := by decide +kernel
theorem dX7_statement_187 : decode cX7_statement 187 = .ok (.iastore, 1) := by decide +kernel
theorem dX7_statement_188 : decode cX7_statement 188 = .ok (.aload_n 0, 1) := by decide +kernel
theorem dX7_statement_189 : decode cX7_statement 189 = .ok (.invokevirtual 214, 3) := by decide +kernel
theorem dX7_statement_192 : decode cX7_statement 192 = .ok (.aload_n 0, 1) := by decide +kernel
theorem dX7_statement_193 : decode cX7_statement 193 = .ok (.bipush 59, 2) := by decide +kernel
theorem dX7_statement_195 : decode cX7_statement 195 = .ok (.invokevirtual 229, 3) := by decide +kernel
theorem dX7_statement_198 : decode cX7_statement 198 = .ok (.ifCond .ne 4, 3) := by decide +kernel
theorem dX7_statement_201 : decode cX7_statement 201 = .ok (.return_, 1) := by decide +kernel
theorem dX7_statement_202 : decode cX7_statement 202 = .ok (.aload_n 0, 1) := by decide +kernel
theorem dX7_statement_203 : decode cX7_statement 203 = .ok (.getfield 13, 3) := by decide +kernel
theorem dX7_statement_206 : decode cX7_statement 206 = .ok (.iload_n 1, 1) := by decide +kernel
theorem dX7_statement_207 : decode cX7_statement 207 = .ok (.dup2, 1) := by decide +kernel
theorem dX7_statement_208 : decode cX7_statement 208 = .ok (.iaload, 1) := by decide +kernel
theorem dX7_statement_209 : decode cX7_statement 209 = .ok (.iconst 1, 1) := by decide +kernel
theorem dX7_statement_210 : decode cX7_statement 210 = .ok (.iadd, 1) := by decide +kernel
theorem dX7_statement_211 : decode cX7_statement 211 = .ok (.iastore, 1) := by decide +kernel
theorem dX7_statement_212 : decode cX7_statement 212 = .ok (.return_, 1) := by decide +kernel
theorem dX7_isOpen_0 : decode cX7_isOpen 0 = .ok (.aload_n 0, 1) := by decide +kernel
theorem dX7_isOpen_1 : decode cX7_isOpen 1 = .ok (.getfield 232, 3) := by decide +kernel
theorem dX7_isOpen_4 : decode cX7_isOpen 4 = .ok (.ifCond .le 22, 3) := by decide +kernel
theorem dX7_isOpen_7 : decode cX7_isOpen 7 = .ok (.aload_n 0, 1) := by decide +kernel
theorem dX7_isOpen_8 : decode cX7_isOpen 8 = .ok (.getfield 35, 3) := by decide +kernel
theorem dX7_isOpen_11 : decode cX7_isOpen 11 = .ok (.aload_n 0, 1) := by decide +kernel
theorem dX7_isOpen_12 : decode cX7_isOpen 12 = .ok (.getfield 232, 3) := by decide +kernel
theorem dX7_isOpen_15 : decode cX7_isOpen 15 = .ok (.iconst 1, 1) := by decide +kernel
theorem dX7_isOpen_16 : decode cX7_isOpen 16 = .ok (.isub, 1) := by decide +kernel
theorem dX7_isOpen_17 : decode cX7_isOpen 17 = .ok (.iaload, 1) := by decide +kernel
theorem dX7_isOpen_18 : decode cX7_isOpen 18 = .ok (.iload_n 1, 1) := by decide +kernel
theorem dX7_isOpen_19 : decode cX7_isOpen 19 = .ok (.if_icmp .ne 7, 3) := by decide +kernel
theorem dX7_isOpen_22 : decode cX7_isOpen 22 = .ok (.iconst 1, 1) := by decide +kernel
theorem dX7_isOpen_23 : decode cX7_isOpen 23 = .ok (.goto 4, 3) := by decide +kernel
theorem dX7_isOpen_26 : decode cX7_isOpen 26 = .ok (.iconst 0, 1) := by decide +kernel
theorem dX7_isOpen_27 : decode cX7_isOpen 27 = .ok (.ireturn, 1) := by decide +kernel
set_option maxRecDepth 20000 in
theorem ggX7_close_X7_puts : GoodIn wsX7_close wsX7_puts := goodIn_r _ [7, 8, 9, 10, 11, 12, 13, 14, 15, 16, 17, 18, 19, 20, 21, 22, 23, 24, 25, 26, 27, 28, 29, 30, 31, 32, 33, 34, 35, 36, 37, 38, 39, 40, 41, 42, 43, 44, 45, 46, 47, 48, 49, 50, 51, 52, 53, 54, 55, 56, 57, 58, 59, 60, 61, 62, 63, 64, 65, 66] (by decide +kernel) (by decide +kernel)
set_option maxRecDepth 20000 in
theorem gX7_close_X7_puts : GoodIn wsX7_close (wsV RX7 235 RX7 yX7_puts wsX7_puts) := goodIn_app (goodIn_of _ (by decide +kernel)) ggX7_close_X7_puts
theorem dX7_close_0 : decode cX7_close 0 = .ok (.aload_n 0, 1) := by decide +kernel
theorem dX7_close_1 : decode cX7_close 1 = .ok (.dup, 1) := by decide +kernel
theorem dX7_close_2 : decode cX7_close 2 = .ok (.getfield 232, 3) := by decide +kernel
theorem dX7_close_5 : decode cX7_close 5 = .ok (.iconst 1, 1) := by decide +kernel
theorem dX7_close_6 : decode cX7_close 6 = .ok (.isub, 1) := by decide +kernel
theorem dX7_close_7 : decode cX7_close 7 = .ok (.putfield 232, 3) := by decide +kernel
theorem dX7_close_10 : decode cX7_close 10 = .ok (.aload_n 0, 1) := by decide +kernel
theorem dX7_close_11 : decode cX7_close 11 = .ok (.aload_n 0, 1) := by decide +kernel
theorem dX7_close_12 : decode cX7_close 12 = .ok (.getfield 35, 3) := by decide +kernel
theorem dX7_close_15 : decode cX7_close 15 = .ok (.aload_n 0, 1) := by decide +kernel
theorem dX7_close_16 : decode cX7_close 16 = .ok (.getfield 232, 3) := by decide +kernel
theorem dX7_close_19 : decode cX7_close 19 = .ok (.iaload, 1) := by decide +kernel
theorem dX7_close_20 : decode cX7_close 20 = .ok (.iconst 0, 1) := by decide +kernel
theorem dX7_close_21 : decode cX7_close 21 = .ok (.invokevirtual 235, 3) := by decide +kernel
theorem dX7_close_24 : decode cX7_close 24 = .ok (.return_, 1) := by decide +kernel
set_option maxRecDepth 20000 in
theorem ggX7_test_X7_wrong : GoodIn wsX7_test wsX7_wrong := goodIn_r _ [10, 3, 11, 91, 92, 93, 94, 95, 96, 97, 98, 99, 100, 101, 102, 103, 104, 105, 106, 107, 108, 109, 110, 111, 112, 113, 114, 115, 116, 117, 118, 119, 120, 121, 122, 123, 124, 125, 126, 127, 128, 129, 130, 131, 132, 133, 134, 135, 136, 137, 138, 139, 140, 141, 142, 143, 144, 145, 146] (by decide +kernel) (by decide +kernel)
set_option maxRecDepth 20000 in
theorem gX7_test_X7_wrong : GoodIn wsX7_test (wsV RX7 211 RX7 yX7_wrong wsX7_wrong) := goodIn_app (goodIn_of _ (by decide +kernel)) ggX7_test_X7_wrong
set_option maxRecDepth 20000 in
theorem ggX7_test_X7_advance : GoodIn wsX7_test wsX7_advance := goodIn_r _ [15, 16, 17, 18, 11, 4, 19, 20, 21, 22, 23, 24, 9, 25, 26, 27, 28, 29, 30, 31, 32, 33, 34, 35, 36, 37, 38, 39, 40, 41, 42, 43, 44, 45, 46, 47, 48, 49, 50, 51, 52, 91, 92, 93, 94, 95, 96, 97, 98, 99, 100, 101, 102, 103, 104, 105, 106, 107, 108, 109, 110, 111, 112, 113, 114, 115, 116, 117, 118, 119, 120, 121, 122, 123, 124, 125, 126, 127, 128, 129, 130, 131, 132, 133, 134, 135, 136, 137, 138, 139, 140, 141, 142, 143, 144, 145, 146] (by decide +kernel) (by decide +kernel)
set_option maxRecDepth 20000 in
theorem gX7_test_X7_advance : GoodIn wsX7_test (wsV RX7 214 RX7 yX7_advance wsX7_advance) := goodIn_app (goodIn_of _ (by decide +kernel)) ggX7_test_X7_advance
set_option maxRecDepth 20000 in
theorem ggX7_test_X7_relation : GoodIn wsX7_test wsX7_relation := goodIn_r _ [56, 3, 4, 57, 58, 59, 9, 60, 61, 62, 63, 64, 65, 66, 67, 68, 22, 21, 69, 70, 71, 72, 73, 74, 75, 12, 13, 14, 15, 16, 17, 18, 11, 19, 20, 23, 24, 25, 26, 27, 28, 29, 30, 31, 32, 33, 34, 35, 36, 37, 38, 39, 40, 41, 42, 43, 44, 45, 46, 47, 48, 49, 50, 51, 52, 76, 77, 78, 6, 7, 8, 10, 91, 92, 93, 94, 95, 96, 97, 98, 99, 100, 101, 102, 103, 104, 105, 106, 107, 108, 109, 110, 111, 112, 113, 114, 115, 116, 117, 118, 119, 120, 121, 122, 123, 124, 125, 126, 127, 128, 129, 130, 131, 132, 133, 134, 135, 136, 137, 138, 139, 140, 141, 142, 143, 144, 145, 146] (by decide +kernel) (by decide +kernel)
set_option maxRecDepth 20000 in
theorem gX7_test_X7_relation : GoodIn wsX7_test (wsV RX7 242 RX7 yX7_relation wsX7_relation) := goodIn_app (goodIn_of _ (by decide +kernel)) ggX7_test_X7_relation
set_option maxRecDepth 20000 in
theorem ggX7_test_X7_goesOn : GoodIn wsX7_test wsX7_goesOn := goodIn_r _ [82, 3, 2, 4, 5, 1, 83, 84, 85, 9, 86, 87, 88, 89, 90, 69, 70, 71, 72, 73, 74, 75, 12, 13, 14, 15, 16, 17, 18, 11, 19, 20, 21, 22, 23, 24, 25, 26, 27, 28, 29, 30, 31, 32, 33, 34, 35, 36, 37, 38, 39, 40, 41, 42, 43, 44, 45, 46, 47, 48, 49, 50, 51, 52, 6, 7, 8, 10, 91, 92, 93, 94, 95, 96, 97, 98, 99, 100, 101, 102, 103, 104, 105, 106, 107, 108, 109, 110, 111, 112, 113, 114, 115, 116, 117, 118, 119, 120, 121, 122, 123, 124, 125, 126, 127, 128, 129, 130, 131, 132, 133, 134, 135, 136, 137, 138, 139, 140, 141, 142, 143, 144, 145, 146] (by decide +kernel) (by decide +kernel)
set_option maxRecDepth 20000 in
theorem gX7_test_X7_goesOn : GoodIn wsX7_test (wsV RX7 245 RX7 yX7_goesOn wsX7_goesOn) := goodIn_app (goodIn_of _ (by decide +kernel)) ggX7_test_X7_goesOn
theorem dX7_test_0 : decode cX7_test 0 = .ok (.aload_n 0, 1) := by decide +kernel
theorem dX7_test_1 : decode cX7_test 1 = .ok (.iconst 0, 1) := by decide +kernel
theorem dX7_test_2 : decode cX7_test 2 = .ok (.putfield 232, 3) := by decide +kernel
theorem dX7_test_5 : decode cX7_test 5 = .ok (.aload_n 0, 1) := by decide +kernel
theorem dX7_test_6 : decode cX7_test 6 = .ok (.iconst 0, 1) := by decide +kernel
theorem dX7_test_7 : decode cX7_test 7 = .ok (.putfield 239, 3) := by decide +kernel
theorem dX7_test_10 : decode cX7_test 10 = .ok (.iconst 1, 1) := by decide +kernel
theorem dX7_test_11 : decode cX7_test 11 = .ok (.istore_n 1, 1) := by decide +kernel
theorem dX7_test_12 : decode cX7_test 12 = .ok (.iload_n 1, 1) := by decide +kernel
theorem dX7_test_13 : decode cX7_test 13 = .ok (.ifCond .eq 112, 3) := by decide +kernel
theorem dX7_test_16 : decode cX7_test 16 = .ok (.aload_n 0, 1) := by decide +kernel
theorem dX7_test_17 : decode cX7_test 17 = .ok (.getfield 208, 3) := by decide +kernel
theorem dX7_test_20 : decode cX7_test 20 = .ok (.ifCond .ge 105, 3) := by decide +kernel
theorem dX7_test_23 : decode cX7_test 23 = .ok (.aload_n 0, 1) := by decide +kernel
theorem dX7_test_24 : decode cX7_test 24 = .ok (.getfield 208, 3) := by decide +kernel
theorem dX7_test_27 : decode cX7_test 27 = .ok (.ifCond .ge 86, 3) := by decide +kernel
theorem dX7_test_30 : decode cX7_test 30 = .ok (.aload_n 0, 1) := by decide +kernel
theorem dX7_test_31 : decode cX7_test 31 = .ok (.getfield 142, 3) := by decide +kernel
theorem dX7_test_34 : decode cX7_test 34 = .ok (.bipush 110, 2) := by decide +kernel
theorem dX7_test_36 : decode cX7_test 36 = .ok (.if_icmp .eq 12, 3) := by decide +kernel
theorem dX7_test_39 : decode cX7_test 39 = .ok (.aload_n 0, 1) := by decide +kernel
theorem dX7_test_40 : decode cX7_test 40 = .ok (.getfield 142, 3) := by decide +kernel
theorem dX7_test_43 : decode cX7_test 43 = .ok (.bipush 40, 2) := by decide +kernel
theorem dX7_test_45 : decode cX7_test 45 = .ok (.if_icmp .ne 68, 3) := by decide +kernel
theorem dX7_test_48 : decode cX7_test 48 = .ok (.aload_n 0, 1) := by decide +kernel
theorem dX7_test_49 : decode cX7_test 49 = .ok (.getfield 239, 3) := by decide +kernel
theorem dX7_test_52 : decode cX7_test 52 = .ok (.bipush 15, 2) := by decide +kernel
theorem dX7_test_54 : decode cX7_test 54 = .ok (.if_icmp .ne 8, 3) := by decide +kernel
theorem dX7_test_57 : decode cX7_test 57 = .ok (.aload_n 0, 1) := by decide +kernel
theorem dX7_test_58 : decode cX7_test 58 = .ok (.invokevirtual 211, 3) := by decide +kernel
theorem dX7_test_61 : decode cX7_test 61 = .ok (.return_, 1) := by decide +kernel
theorem dX7_test_62 : decode cX7_test 62 = .ok (.aload_n 0, 1) := by decide +kernel
theorem dX7_test_63 : decode cX7_test 63 = .ok (.dup, 1) := by decide +kernel
theorem dX7_test_64 : decode cX7_test 64 = .ok (.getfield 239, 3) := by decide +kernel
theorem dX7_test_67 : decode cX7_test 67 = .ok (.iconst 1, 1) := by decide +kernel
theorem dX7_test_68 : decode cX7_test 68 = .ok (.iadd, 1) := by decide +kernel
theorem dX7_test_69 : decode cX7_test 69 = .ok (.putfield 239, 3) := by decide +kernel
theorem dX7_test_72 : decode cX7_test 72 = .ok (.aload_n 0, 1) := by decide +kernel
theorem dX7_test_73 : decode cX7_test 73 = .ok (.getfield 35, 3) := by decide +kernel
theorem dX7_test_76 : decode cX7_test 76 = .ok (.aload_n 0, 1) := by decide +kernel
theorem dX7_test_77 : decode cX7_test 77 = .ok (.getfield 232, 3) := by decide +kernel
theorem dX7_test_80 : decode cX7_test 80 = .ok (.aload_n 0, 1) := by decide +kernel
theorem dX7_test_81 : decode cX7_test 81 = .ok (.getfield 142, 3) := by decide +kernel
theorem dX7_test_84 : decode cX7_test 84 = .ok (.bipush 110, 2) := by decide +kernel
theorem dX7_test_86 : decode cX7_test 86 = .ok (.if_icmp .ne 7, 3) := by decide +kernel
theorem dX7_test_89 : decode cX7_test 89 = .ok (.iconst 2, 1) := by decide +kernel
theorem dX7_test_90 : decode cX7_test 90 = .ok (.goto 5, 3) := by decide +kernel
theorem dX7_test_93 : decode cX7_test 93 = .ok (.bipush 40, 2) := by decide +kernel
theorem dX7_test_95 : decode cX7_test 95 = .ok (.iastore, 1) := by decide +kernel
theorem dX7_test_96 : decode cX7_test 96 = .ok (.aload_n 0, 1) := by decide +kernel
theorem dX7_test_97 : decode cX7_test 97 = .ok (.dup, 1) := by decide +kernel
theorem dX7_test_98 : decode cX7_test 98 = .ok (.getfield 232, 3) := by decide +kernel
theorem dX7_test_101 : decode cX7_test 101 = .ok (.iconst 1, 1) := by decide +kernel
theorem dX7_test_102 : decode cX7_test 102 = .ok (.iadd, 1) := by decide +kernel
theorem dX7_test_103 : decode cX7_test 103 = .ok (.putfield 232, 3) := by decide +kernel
theorem dX7_test_106 : decode cX7_test 106 = .ok (.aload_n 0, 1) := by decide +kernel
theorem dX7_test_107 : decode cX7_test 107 = .ok (.invokevirtual 214, 3) := by decide +kernel
theorem dX7_test_110 : decode cX7_test 110 = .ok (.goto (-87), 3) := by decide +kernel
theorem dX7_test_113 : decode cX7_test 113 = .ok (.aload_n 0, 1) := by decide +kernel
theorem dX7_test_114 : decode cX7_test 114 = .ok (.invokevirtual 242, 3) := by decide +kernel
theorem dX7_test_117 : decode cX7_test 117 = .ok (.aload_n 0, 1) := by decide +kernel
theorem dX7_test_118 : decode cX7_test 118 = .ok (.invokevirtual 245, 3) := by decide +kernel
theorem dX7_test_121 : decode cX7_test 121 = .ok (.istore_n 1, 1) := by decide +kernel
theorem dX7_test_122 : decode cX7_test 122 = .ok (.goto (-110), 3) := by decide +kernel
theorem dX7_test_125 : decode cX7_test 125 = .ok (.return_, 1) := by decide +kernel
set_option maxRecDepth 20000 in
theorem ggX7_goesOn_X7_isOpen : GoodIn wsX7_goesOn wsX7_isOpen := goodIn_r _ [10, 5, 4, 68, 69, 70, 71, 72, 73, 74, 75, 76, 77, 78, 79, 80, 81, 82, 83, 84, 85, 86, 87, 88, 89, 90, 91, 92, 93, 94, 95, 96, 97, 98, 99, 100, 101, 102, 103, 104, 105, 106, 107, 108, 109, 110, 111, 112, 113, 114, 115, 116, 117, 118, 119, 120, 121, 122, 123] (by decide +kernel) (by decide +kernel)
set_option maxRecDepth 20000 in
theorem gX7_goesOn_X7_isOpen : GoodIn wsX7_goesOn (wsV RX7 249 RX7 yX7_isOpen wsX7_isOpen) := goodIn_app (goodIn_of _ (by decide +kernel)) ggX7_goesOn_X7_isOpen
set_option maxRecDepth 20000 in
theorem ggX7_goesOn_X7_close : GoodIn wsX7_goesOn wsX7_close := goodIn_r _ [14, 5, 4, 15, 16, 17, 9, 18, 19, 20, 21, 68, 69, 70, 71, 72, 73, 74, 75, 76, 77, 78, 79, 80, 81, 82, 83, 84, 85, 86, 87, 88, 89, 90, 91, 92, 93, 94, 95, 96, 97, 98, 99, 100, 101, 102, 103, 104, 105, 106, 107, 108, 109, 110, 111, 112, 113, 114, 115, 116, 117, 118, 119, 120, 121, 122, 123] (by decide +kernel) (by decide +kernel)
set_option maxRecDepth 20000 in
theorem gX7_goesOn_X7_close : GoodIn wsX7_goesOn (wsV RX7 252 RX7 yX7_close wsX7_close) := goodIn_app (goodIn_of _ (by decide +kernel)) ggX7_goesOn_X7_close
set_option maxRecDepth 20000 in
theorem ggX7_goesOn_X7_advance : GoodIn wsX7_goesOn wsX7_advance := goodIn_r _ [25, 26, 27, 28, 29, 3, 30, 31, 32, 33, 34, 35, 9, 36, 37, 38, 39, 40, 41, 42, 43, 44, 45, 46, 47, 48, 49, 50, 51, 52, 53, 54, 55, 56, 57, 58, 59, 60, 61, 62, 63, 68, 69, 70, 71, 72, 73, 74, 75, 76, 77, 78, 79, 80, 81, 82, 83, 84, 85, 86, 87, 88, 89, 90, 91, 92, 93, 94, 95, 96, 97, 98, 99, 100, 101, 102, 103, 104, 105, 106, 107, 108, 109, 110, 111, 112, 113, 114, 115, 116, 117, 118, 119, 120, 121, 122, 123] (by decide +kernel) (by decide +kernel)
set_option maxRecDepth 20000 in
theorem gX7_goesOn_X7_advance : GoodIn wsX7_goesOn (wsV RX7 214 RX7 yX7_advance wsX7_advance) := goodIn_app (goodIn_of _ (by decide +kernel)) ggX7_goesOn_X7_advance
set_option maxRecDepth 20000 in
theorem ggX7_goesOn_X7_wrong : GoodIn wsX7_goesOn wsX7_wrong := goodIn_r _ [67, 1, 29, 68, 69, 70, 71, 72, 73, 74, 75, 76, 77, 78, 79, 80, 81, 82, 83, 84, 85, 86, 87, 88, 89, 90, 91, 92, 93, 94, 95, 96, 97, 98, 99, 100, 101, 102, 103, 104, 105, 106, 107, 108, 109, 110, 111, 112, 113, 114, 115, 116, 117, 118, 119, 120, 121, 122, 123] (by decide +kernel) (by decide +kernel)
set_option maxRecDepth 20000 in
theorem gX7_goesOn_X7_wrong : GoodIn wsX7_goesOn (wsV RX7 211 RX7 yX7_wrong wsX7_wrong) := goodIn_app (goodIn_of _ (by decide +kernel)) ggX7_goesOn_X7_wrong
theorem dX7_goesOn_0 : decode cX7_goesOn 0 = .ok (.iconst 1, 1) := by decide +kernel
theorem dX7_goesOn_1 : decode cX7_goesOn 1 = .ok (.istore_n 1, 1) := by decide +kernel
theorem dX7_goesOn_2 : decode cX7_goesOn 2 = .ok (.iload_n 1, 1) := by decide +kernel
theorem dX7_goesOn_3 : decode cX7_goesOn 3 = .ok (.ifCond .eq 184, 3) := by decide +kernel
theorem dX7_goesOn_6 : decode cX7_goesOn 6 = .ok (.aload_n 0, 1) := by decide +kernel
theorem dX7_goesOn_7 : decode cX7_goesOn 7 = .ok (.getfield 208, 3) := by decide +kernel
theorem dX7_goesOn_10 : decode cX7_goesOn 10 = .ok (.ifCond .ge 177, 3) := by decide +kernel
theorem dX7_goesOn_13 : decode cX7_goesOn 13 = .ok (.aload_n 0, 1) := by decide +kernel
theorem dX7_goesOn_14 : decode cX7_goesOn 14 = .ok (.iconst 2, 1) := by decide +kernel
theorem dX7_goesOn_15 : decode cX7_goesOn 15 = .ok (.invokevirtual 249, 3) := by decide +kernel
theorem dX7_goesOn_18 : decode cX7_goesOn 18 = .ok (.ifCond .eq 20, 3) := by decide +kernel
theorem dX7_goesOn_21 : decode cX7_goesOn 21 = .ok (.aload_n 0, 1) := by decide +kernel
theorem dX7_goesOn_22 : decode cX7_goesOn 22 = .ok (.dup, 1) := by decide +kernel
theorem dX7_goesOn_23 : decode cX7_goesOn 23 = .ok (.getfield 239, 3) := by decide +kernel
theorem dX7_goesOn_26 : decode cX7_goesOn 26 = .ok (.iconst 1, 1) := by decide +kernel
theorem dX7_goesOn_27 : decode cX7_goesOn 27 = .ok (.isub, 1) := by decide +kernel
theorem dX7_goesOn_28 : decode cX7_goesOn 28 = .ok (.putfield 239, 3) := by decide +kernel
theorem dX7_goesOn_31 : decode cX7_goesOn 31 = .ok (.aload_n 0, 1) := by decide +kernel
theorem dX7_goesOn_32 : decode cX7_goesOn 32 = .ok (.invokevirtual 252, 3) := by decide +kernel
theorem dX7_goesOn_35 : decode cX7_goesOn 35 = .ok (.goto (-22), 3) := by decide +kernel
theorem dX7_goesOn_38 : decode cX7_goesOn 38 = .ok (.aload_n 0, 1) := by decide +kernel
theorem dX7_goesOn_39 : decode cX7_goesOn 39 = .ok (.iconst 3, 1) := by decide +kernel
theorem dX7_goesOn_40 : decode cX7_goesOn 40 = .ok (.invokevirtual 249, 3) := by decide +kernel
theorem dX7_goesOn_43 : decode cX7_goesOn 43 = .ok (.ifCond .eq 7, 3) := by decide +kernel
theorem dX7_goesOn_46 : decode cX7_goesOn 46 = .ok (.aload_n 0, 1) := by decide +kernel
theorem dX7_goesOn_47 : decode cX7_goesOn 47 = .ok (.invokevirtual 252, 3) := by decide +kernel
theorem dX7_goesOn_50 : decode cX7_goesOn 50 = .ok (.aload_n 0, 1) := by decide +kernel
theorem dX7_goesOn_51 : decode cX7_goesOn 51 = .ok (.getfield 142, 3) := by decide +kernel
theorem dX7_goesOn_54 : decode cX7_goesOn 54 = .ok (.bipush 109, 2) := by decide +kernel
theorem dX7_goesOn_56 : decode cX7_goesOn 56 = .ok (.if_icmp .ne 29, 3) := by decide +kernel
theorem dX7_goesOn_59 : decode cX7_goesOn 59 = .ok (.aload_n 0, 1) := by decide +kernel
theorem dX7_goesOn_60 : decode cX7_goesOn 60 = .ok (.getfield 35, 3) := by decide +kernel
theorem dX7_goesOn_63 : decode cX7_goesOn 63 = .ok (.aload_n 0, 1) := by decide +kernel
theorem dX7_goesOn_64 : decode cX7_goesOn 64 = .ok (.getfield 232, 3) := by decide +kernel
theorem dX7_goesOn_67 : decode cX7_goesOn 67 = .ok (.iconst 3, 1) := by decide +kernel
theorem dX7_goesOn_68 : decode cX7_goesOn 68 = .ok (.iastore, 1) := by decide +kernel
theorem dX7_goesOn_69 : decode cX7_goesOn 69 = .ok (.aload_n 0, 1) := by decide +kernel
theorem dX7_goesOn_70 : decode cX7_goesOn 70 = .ok (.dup, 1) := by decide +kernel
theorem dX7_goesOn_71 : decode cX7_goesOn 71 = .ok (.getfield 232, 3) := by decide +kernel
theorem dX7_goesOn_74 : decode cX7_goesOn 74 = .ok (.iconst 1, 1) := by decide +kernel
theorem dX7_goesOn_75 : decode cX7_goesOn 75 = .ok (.iadd, 1) := by decide +kernel
theorem dX7_goesOn_76 : decode cX7_goesOn 76 = .ok (.putfield 232, 3) := by decide +kernel
theorem dX7_goesOn_79 : decode cX7_goesOn 79 = .ok (.aload_n 0, 1) := by decide +kernel
theorem dX7_goesOn_80 : decode cX7_goesOn 80 = .ok (.invokevirtual 214, 3) := by decide +kernel
theorem dX7_goesOn_83 : decode cX7_goesOn 83 = .ok (.iconst 1, 1) := by decide +kernel
theorem dX7_goesOn_84 : decode cX7_goesOn 84 = .ok (.ireturn, 1) := by decide +kernel
theorem dX7_goesOn_85 : decode cX7_goesOn 85 = .ok (.aload_n 0, 1) := by decide +kernel
theorem dX7_goesOn_86 : decode cX7_goesOn 86 = .ok (.iconst 4, 1) := by decide +kernel
theorem dX7_goesOn_87 : decode cX7_goesOn 87 = .ok (.invokevirtual 249, 3) := by decide +kernel
theorem dX7_goesOn_90 : decode cX7_goesOn 90 = .ok (.ifCond .eq 7, 3) := by decide +kernel
theorem dX7_goesOn_93 : decode cX7_goesOn 93 = .ok (.aload_n 0, 1) := by decide +kernel
theorem dX7_goesOn_94 : decode cX7_goesOn 94 = .ok (.invokevirtual 252, 3) := by decide +kernel
theorem dX7_goesOn_97 : decode cX7_goesOn 97 = .ok (.aload_n 0, 1) := by decide +kernel
theorem dX7_goesOn_98 : decode cX7_goesOn 98 = .ok (.getfield 142, 3) := by decide +kernel
theorem dX7_goesOn_101 : decode cX7_goesOn 101 = .ok (.bipush 108, 2) := by decide +kernel
theorem dX7_goesOn_103 : decode cX7_goesOn 103 = .ok (.if_icmp .ne 29, 3) := by decide +kernel
theorem dX7_goesOn_106 : decode cX7_goesOn 106 = .ok (.aload_n 0, 1) := by decide +kernel
theorem dX7_goesOn_107 : decode cX7_goesOn 107 = .ok (.getfield 35, 3) := by decide +kernel
theorem dX7_goesOn_110 : decode cX7_goesOn 110 = .ok (.aload_n 0, 1) := by decide +kernel
theorem dX7_goesOn_111 : decode cX7_goesOn 111 = .ok (.getfield 232, 3) := by decide +kernel
theorem dX7_goesOn_114 : decode cX7_goesOn 114 = .ok (.iconst 4, 1) := by decide +kernel
theorem dX7_goesOn_115 : decode cX7_goesOn 115 = .ok (.iastore, 1) := by decide +kernel
theorem dX7_goesOn_116 : decode cX7_goesOn 116 = .ok (.aload_n 0, 1) := by decide +kernel
theorem dX7_goesOn_117 : decode cX7_goesOn 117 = .ok (.dup, 1) := by decide +kernel
theorem dX7_goesOn_118 : decode cX7_goesOn 118 = .ok (.getfield 232, 3) := by decide +kernel
theorem dX7_goesOn_121 : decode cX7_goesOn 121 = .ok (.iconst 1, 1) := by decide +kernel
theorem dX7_goesOn_122 : decode cX7_goesOn 122 = .ok (.iadd, 1) := by decide +kernel
theorem dX7_goesOn_123 : decode cX7_goesOn 123 = .ok (.putfield 232, 3) := by decide +kernel
theorem dX7_goesOn_126 : decode cX7_goesOn 126 = .ok (.aload_n 0, 1) := by decide +kernel
theorem dX7_goesOn_127 : decode cX7_goesOn 127 = .ok (.invokevirtual 214, 3) := by decide +kernel
theorem dX7_goesOn_130 : decode cX7_goesOn 130 = .ok (.iconst 1, 1) := by decide +kernel
theorem dX7_goesOn_131 : decode cX7_goesOn 131 = .ok (.ireturn, 1) := by decide +kernel
theorem dX7_goesOn_132 : decode cX7_goesOn 132 = .ok (.aload_n 0, 1) := by decide +kernel
theorem dX7_goesOn_133 : decode cX7_goesOn 133 = .ok (.bipush 40, 2) := by decide +kernel
theorem dX7_goesOn_135 : decode cX7_goesOn 135 = .ok (.invokevirtual 249, 3) := by decide +kernel
theorem dX7_goesOn_138 : decode cX7_goesOn 138 = .ok (.ifCond .eq 16, 3) := by decide +kernel
theorem dX7_goesOn_141 : decode cX7_goesOn 141 = .ok (.aload_n 0, 1) := by decide +kernel
theorem dX7_goesOn_142 : decode cX7_goesOn 142 = .ok (.getfield 142, 3) := by decide +kernel
theorem dX7_goesOn_145 : decode cX7_goesOn 145 = .ok (.bipush 41, 2) := by decide +kernel
theorem dX7_goesOn_147 : decode cX7_goesOn 147 = .ok (.if_icmp .ne 7, 3) := by decide +kernel
theorem dX7_goesOn_150 : decode cX7_goesOn 150 = .ok (.iconst 1, 1) := by decide +kernel
theorem dX7_goesOn_151 : decode cX7_goesOn 151 = .ok (.goto 4, 3) := by decide +kernel
theorem dX7_goesOn_154 : decode cX7_goesOn 154 = .ok (.iconst 0, 1) := by decide +kernel
theorem dX7_goesOn_155 : decode cX7_goesOn 155 = .ok (.istore_n 1, 1) := by decide +kernel
theorem dX7_goesOn_156 : decode cX7_goesOn 156 = .ok (.iload_n 1, 1) := by decide +kernel
theorem dX7_goesOn_157 : decode cX7_goesOn 157 = .ok (.ifCond .eq (-155), 3) := by decide +kernel
theorem dX7_goesOn_160 : decode cX7_goesOn 160 = .ok (.aload_n 0, 1) := by decide +kernel
theorem dX7_goesOn_161 : decode cX7_goesOn 161 = .ok (.dup, 1) := by decide +kernel
theorem dX7_goesOn_162 : decode cX7_goesOn 162 = .ok (.getfield 232, 3) := by decide +kernel
theorem dX7_goesOn_165 : decode cX7_goesOn 165 = .ok (.iconst 1, 1) := by decide +kernel
theorem dX7_goesOn_166 : decode cX7_goesOn 166 = .ok (.isub, 1) := by decide +kernel
theorem dX7_goesOn_167 : decode cX7_goesOn 167 = .ok (.putfield 232, 3) := by decide +kernel
theorem dX7_goesOn_170 : decode cX7_goesOn 170 = .ok (.aload_n 0, 1) := by decide +kernel
theorem dX7_goesOn_171 : decode cX7_goesOn 171 = .ok (.dup, 1) := by decide +kernel
theorem dX7_goesOn_172 : decode cX7_goesOn 172 = .ok (.getfield 239, 3) := by decide +kernel
theorem dX7_goesOn_175 : decode cX7_goesOn 175 = .ok (.iconst 1, 1) := by decide +kernel
theorem dX7_goesOn_176 : decode cX7_goesOn 176 = .ok (.isub, 1) := by decide +kernel
theorem dX7_goesOn_177 : decode cX7_goesOn 177 = .ok (.putfield 239, 3) := by decide +kernel
theorem dX7_goesOn_180 : decode cX7_goesOn 180 = .ok (.aload_n 0, 1) := by decide +kernel
theorem dX7_goesOn_181 : decode cX7_goesOn 181 = .ok (.invokevirtual 214, 3) := by decide +kernel
theorem dX7_goesOn_184 : decode cX7_goesOn 184 = .ok (.goto (-182), 3) := by decide +kernel
theorem dX7_goesOn_187 : decode cX7_goesOn 187 = .ok (.aload_n 0, 1) := by decide +kernel
theorem dX7_goesOn_188 : decode cX7_goesOn 188 = .ok (.getfield 208, 3) := by decide +kernel
theorem dX7_goesOn_191 : decode cX7_goesOn 191 = .ok (.ifCond .ge 14, 3) := by decide +kernel
theorem dX7_goesOn_194 : decode cX7_goesOn 194 = .ok (.aload_n 0, 1) := by decide +kernel
theorem dX7_goesOn_195 : decode cX7_goesOn 195 = .ok (.getfield 232, 3) := by decide +kernel
theorem dX7_goesOn_198 : decode cX7_goesOn 198 = .ok (.ifCond .le 7, 3) := by decide +kernel
theorem dX7_goesOn_201 : decode cX7_goesOn 201 = .ok (.aload_n 0, 1) := by decide +kernel
theorem dX7_goesOn_202 : decode cX7_goesOn 202 = .ok (.invokevirtual 211, 3) := by decide +kernel
theorem dX7_goesOn_205 : decode cX7_goesOn 205 = .ok (.iconst 0, 1) := by decide +kernel
theorem dX7_goesOn_206 : decode cX7_goesOn 206 = .ok (.ireturn, 1) := by decide +kernel
set_option maxRecDepth 20000 in
theorem ggX7_relation_X7_readSum : GoodIn wsX7_relation wsX7_readSum := goodIn_r _ [7, 1, 2, 8, 9, 10, 6, 11, 12, 13, 14, 15, 16, 17, 18, 19, 20, 21, 22, 23, 24, 25, 26, 27, 28, 29, 30, 31, 32, 33, 34, 35, 36, 37, 38, 39, 40, 41, 42, 43, 44, 45, 46, 47, 48, 49, 50, 51, 52, 53, 54, 55, 56, 57, 58, 59, 60, 61, 62, 63, 64, 65, 66, 67, 68, 69, 70, 71, 72, 73, 74, 75, 76, 77, 78, 79, 80, 81, 82, 83, 84, 85, 86, 87, 88, 89, 90, 91, 92, 93, 94, 95, 96, 97, 98, 99, 100, 101, 102, 103, 104, 105, 106, 107, 108, 109, 110, 111, 112, 113, 114, 115, 116, 117, 118, 119, 120, 121, 122, 123, 124, 125, 126, 127] (by decide +kernel) (by decide +kernel)
set_option maxRecDepth 20000 in
theorem gX7_relation_X7_readSum : GoodIn wsX7_relation (wsV RX7 255 RX7 yX7_readSum wsX7_readSum) := goodIn_app (goodIn_of _ (by decide +kernel)) ggX7_relation_X7_readSum
set_option maxRecDepth 20000 in
theorem ggX7_relation_X7_wrong : GoodIn wsX7_relation wsX7_wrong := goodIn_r _ [71, 1, 32, 72, 73, 74, 75, 76, 77, 78, 79, 80, 81, 82, 83, 84, 85, 86, 87, 88, 89, 90, 91, 92, 93, 94, 95, 96, 97, 98, 99, 100, 101, 102, 103, 104, 105, 106, 107, 108, 109, 110, 111, 112, 113, 114, 115, 116, 117, 118, 119, 120, 121, 122, 123, 124, 125, 126, 127] (by decide +kernel) (by decide +kernel)
set_option maxRecDepth 20000 in
theorem gX7_relation_X7_wrong : GoodIn wsX7_relation (wsV RX7 211 RX7 yX7_wrong wsX7_wrong) := goodIn_app (goodIn_of _ (by decide +kernel)) ggX7_relation_X7_wrong
set_option maxRecDepth 20000 in
theorem ggX7_relation_X7_advance : GoodIn wsX7_relation wsX7_advance := goodIn_r _ [28, 29, 30, 31, 32, 2, 33, 34, 17, 16, 35, 36, 6, 37, 38, 39, 40, 41, 42, 43, 44, 45, 46, 47, 48, 49, 50, 51, 52, 53, 54, 55, 56, 57, 58, 59, 60, 61, 62, 63, 64, 72, 73, 74, 75, 76, 77, 78, 79, 80, 81, 82, 83, 84, 85, 86, 87, 88, 89, 90, 91, 92, 93, 94, 95, 96, 97, 98, 99, 100, 101, 102, 103, 104, 105, 106, 107, 108, 109, 110, 111, 112, 113, 114, 115, 116, 117, 118, 119, 120, 121, 122, 123, 124, 125, 126, 127] (by decide +kernel) (by decide +kernel)
set_option maxRecDepth 20000 in
theorem gX7_relation_X7_advance : GoodIn wsX7_relation (wsV RX7 214 RX7 yX7_advance wsX7_advance) := goodIn_app (goodIn_of _ (by decide +kernel)) ggX7_relation_X7_advance
set_option maxRecDepth 20000 in
theorem ggX7_relation_X7_puts : GoodIn wsX7_relation wsX7_puts := goodIn_r _ [21, 22, 23, 24, 72, 73, 74, 75, 76, 77, 78, 79, 80, 81, 82, 83, 84, 85, 86, 87, 88, 89, 90, 91, 92, 93, 94, 95, 96, 97, 98, 99, 100, 101, 102, 103, 104, 105, 106, 107, 108, 109, 110, 111, 112, 113, 114, 115, 116, 117, 118, 119, 120, 121, 122, 123, 124, 125, 126, 127] (by decide +kernel) (by decide +kernel)
set_option maxRecDepth 20000 in
theorem gX7_relation_X7_puts : GoodIn wsX7_relation (wsV RX7 235 RX7 yX7_puts wsX7_puts) := goodIn_app (goodIn_of _ (by decide +kernel)) ggX7_relation_X7_puts
theorem dX7_relation_0 : decode cX7_relation 0 = .ok (.aload_n 0, 1) := by decide +kernel
theorem dX7_relation_1 : decode cX7_relation 1 = .ok (.invokevirtual 255, 3) := by decide +kernel
theorem dX7_relation_4 : decode cX7_relation 4 = .ok (.aload_n 0, 1) := by decide +kernel
theorem dX7_relation_5 : decode cX7_relation 5 = .ok (.getfield 208, 3) := by decide +kernel
theorem dX7_relation_8 : decode cX7_relation 8 = .ok (.ifCond .lt 4, 3) := by decide +kernel
theorem dX7_relation_11 : decode cX7_relation 11 = .ok (.return_, 1) := by decide +kernel
theorem dX7_relation_12 : decode cX7_relation 12 = .ok (.aload_n 0, 1) := by decide +kernel
theorem dX7_relation_13 : decode cX7_relation 13 = .ok (.getfield 142, 3) := by decide +kernel
theorem dX7_relation_16 : decode cX7_relation 16 = .ok (.bipush 60, 2) := by decide +kernel
theorem dX7_relation_18 : decode cX7_relation 18 = .ok (.if_icmp .ne 7, 3) := by decide +kernel
theorem dX7_relation_21 : decode cX7_relation 21 = .ok (.iconst 5, 1) := by decide +kernel
theorem dX7_relation_22 : decode cX7_relation 22 = .ok (.goto 32, 3) := by decide +kernel
theorem dX7_relation_25 : decode cX7_relation 25 = .ok (.aload_n 0, 1) := by decide +kernel
theorem dX7_relation_26 : decode cX7_relation 26 = .ok (.getfield 142, 3) := by decide +kernel
theorem dX7_relation_29 : decode cX7_relation 29 = .ok (.bipush 61, 2) := by decide +kernel
theorem dX7_relation_31 : decode cX7_relation 31 = .ok (.if_icmp .ne 8, 3) := by decide +kernel
theorem dX7_relation_34 : decode cX7_relation 34 = .ok (.bipush 6, 2) := by decide +kernel
theorem dX7_relation_36 : decode cX7_relation 36 = .ok (.goto 18, 3) := by decide +kernel
theorem dX7_relation_39 : decode cX7_relation 39 = .ok (.aload_n 0, 1) := by decide +kernel
theorem dX7_relation_40 : decode cX7_relation 40 = .ok (.getfield 142, 3) := by decide +kernel
theorem dX7_relation_43 : decode cX7_relation 43 = .ok (.bipush 62, 2) := by decide +kernel
theorem dX7_relation_45 : decode cX7_relation 45 = .ok (.if_icmp .ne 8, 3) := by decide +kernel
theorem dX7_relation_48 : decode cX7_relation 48 = .ok (.bipush 7, 2) := by decide +kernel
theorem dX7_relation_50 : decode cX7_relation 50 = .ok (.goto 4, 3) := by decide +kernel
theorem dX7_relation_53 : decode cX7_relation 53 = .ok (.iconst 0, 1) := by decide +kernel
theorem dX7_relation_54 : decode cX7_relation 54 = .ok (.istore_n 1, 1) := by decide +kernel
theorem dX7_relation_55 : decode cX7_relation 55 = .ok (.iload_n 1, 1) := by decide +kernel
theorem dX7_relation_56 : decode cX7_relation 56 = .ok (.ifCond .ne 8, 3) := by decide +kernel
theorem dX7_relation_59 : decode cX7_relation 59 = .ok (.aload_n 0, 1) := by decide +kernel
theorem dX7_relation_60 : decode cX7_relation 60 = .ok (.invokevirtual 211, 3) := by decide +kernel
theorem dX7_relation_63 : decode cX7_relation 63 = .ok (.return_, 1) := by decide +kernel
theorem dX7_relation_64 : decode cX7_relation 64 = .ok (.aload_n 0, 1) := by decide +kernel
theorem dX7_relation_65 : decode cX7_relation 65 = .ok (.invokevirtual 214, 3) := by decide +kernel
theorem dX7_relation_68 : decode cX7_relation 68 = .ok (.aload_n 0, 1) := by decide +kernel
theorem dX7_relation_69 : decode cX7_relation 69 = .ok (.invokevirtual 255, 3) := by decide +kernel
theorem dX7_relation_72 : decode cX7_relation 72 = .ok (.aload_n 0, 1) := by decide +kernel
theorem dX7_relation_73 : decode cX7_relation 73 = .ok (.iload_n 1, 1) := by decide +kernel
theorem dX7_relation_74 : decode cX7_relation 74 = .ok (.iconst 0, 1) := by decide +kernel
theorem dX7_relation_75 : decode cX7_relation 75 = .ok (.invokevirtual 235, 3) := by decide +kernel
theorem dX7_relation_78 : decode cX7_relation 78 = .ok (.return_, 1) := by decide +kernel
set_option maxRecDepth 20000 in
theorem ggX7_readSum_X7_product : GoodIn wsX7_readSum wsX7_product := goodIn_r _ [7, 1, 2, 8, 9, 10, 6, 11, 12, 13, 14, 15, 16, 17, 18, 19, 20, 21, 22, 23, 24, 25, 26, 27, 28, 29, 30, 31, 32, 33, 34, 35, 36, 37, 38, 39, 40, 41, 42, 43, 44, 45, 46, 47, 48, 49, 50, 51, 52, 53, 54, 55, 56, 57, 58, 59, 60, 61, 62, 63, 64, 65, 66, 67, 68, 69, 70, 71, 72, 73, 74, 75, 76, 77, 78, 79, 80, 81, 82, 83, 84, 85, 86, 87, 88, 89, 90, 91, 92, 93, 94, 95, 96, 97, 98, 99, 100, 101, 102, 103, 104, 105, 106, 107, 108, 109, 110, 111, 112, 113, 114, 115, 116, 117, 118, 119, 120, 121, 122, 123] (by decide +kernel) (by decide +kernel)
set_option maxRecDepth 20000 in
theorem gX7_readSum_X7_product : GoodIn wsX7_readSum (wsV RX7 258 RX7 yX7_product wsX7_product) := goodIn_app (goodIn_of _ (by decide +kernel)) ggX7_readSum_X7_product
set_option maxRecDepth 20000 in
theorem ggX7_readSum_X7_advance : GoodIn wsX7_readSum wsX7_advance := goodIn_r _ [24, 25, 26, 27, 28, 2, 29, 30, 13, 12, 31, 32, 6, 33, 34, 35, 36, 37, 38, 39, 40, 41, 42, 43, 44, 45, 46, 47, 48, 49, 50, 51, 52, 53, 54, 55, 56, 57, 58, 59, 60, 68, 69, 70, 71, 72, 73, 74, 75, 76, 77, 78, 79, 80, 81, 82, 83, 84, 85, 86, 87, 88, 89, 90, 91, 92, 93, 94, 95, 96, 97, 98, 99, 100, 101, 102, 103, 104, 105, 106, 107, 108, 109, 110, 111, 112, 113, 114, 115, 116, 117, 118, 119, 120, 121, 122, 123] (by decide +kernel) (by decide +kernel)
set_option maxRecDepth 20000 in
theorem gX7_readSum_X7_advance : GoodIn wsX7_readSum (wsV RX7 214 RX7 yX7_advance wsX7_advance) := goodIn_app (goodIn_of _ (by decide +kernel)) ggX7_readSum_X7_advance
set_option maxRecDepth 20000 in
theorem ggX7_readSum_X7_puts : GoodIn wsX7_readSum wsX7_puts := goodIn_r _ [17, 18, 19, 20, 68, 69, 70, 71, 72, 73, 74, 75, 76, 77, 78, 79, 80, 81, 82, 83, 84, 85, 86, 87, 88, 89, 90, 91, 92, 93, 94, 95, 96, 97, 98, 99, 100, 101, 102, 103, 104, 105, 106, 107, 108, 109, 110, 111, 112, 113, 114, 115, 116, 117, 118, 119, 120, 121, 122, 123] (by decide +kernel) (by decide +kernel)
set_option maxRecDepth 20000 in
theorem gX7_readSum_X7_puts : GoodIn wsX7_readSum (wsV RX7 235 RX7 yX7_puts wsX7_puts) := goodIn_app (goodIn_of _ (by decide +kernel)) ggX7_readSum_X7_puts
theorem dX7_readSum_0 : decode cX7_readSum 0 = .ok (.aload_n 0, 1) := by decide +kernel
theorem dX7_readSum_1 : decode cX7_readSum 1 = .ok (.invokevirtual 258, 3) := by decide +kernel
theorem dX7_readSum_4 : decode cX7_readSum 4 = .ok (.aload_n 0, 1) := by decide +kernel
theorem dX7_readSum_5 : decode cX7_readSum 5 = .ok (.getfield 208, 3) := by decide +kernel
theorem dX7_readSum_8 : decode cX7_readSum 8 = .ok (.ifCond .ge 55, 3) := by decide +kernel
theorem dX7_readSum_11 : decode cX7_readSum 11 = .ok (.aload_n 0, 1) := by decide +kernel
theorem dX7_readSum_12 : decode cX7_readSum 12 = .ok (.getfield 142, 3) := by decide +kernel
theorem dX7_readSum_15 : decode cX7_readSum 15 = .ok (.bipush 43, 2) := by decide +kernel
theorem dX7_readSum_17 : decode cX7_readSum 17 = .ok (.if_icmp .eq 12, 3) := by decide +kernel
theorem dX7_readSum_20 : decode cX7_readSum 20 = .ok (.aload_n 0, 1) := by decide +kernel
theorem dX7_readSum_21 : decode cX7_readSum 21 = .ok (.getfield 142, 3) := by decide +kernel
theorem dX7_readSum_24 : decode cX7_readSum 24 = .ok (.bipush 45, 2) := by decide +kernel
theorem dX7_readSum_26 : decode cX7_readSum 26 = .ok (.if_icmp .ne 37, 3) := by decide +kernel
theorem dX7_readSum_29 : decode cX7_readSum 29 = .ok (.aload_n 0, 1) := by decide +kernel
theorem dX7_readSum_30 : decode cX7_readSum 30 = .ok (.getfield 142, 3) := by decide +kernel
theorem dX7_readSum_33 : decode cX7_readSum 33 = .ok (.bipush 43, 2) := by decide +kernel
theorem dX7_readSum_35 : decode cX7_readSum 35 = .ok (.if_icmp .ne 8, 3) := by decide +kernel
theorem dX7_readSum_38 : decode cX7_readSum 38 = .ok (.bipush 8, 2) := by decide +kernel
theorem dX7_readSum_40 : decode cX7_readSum 40 = .ok (.goto 5, 3) := by decide +kernel
theorem dX7_readSum_43 : decode cX7_readSum 43 = .ok (.bipush 9, 2) := by decide +kernel
theorem dX7_readSum_45 : decode cX7_readSum 45 = .ok (.istore_n 1, 1) := by decide +kernel
theorem dX7_readSum_46 : decode cX7_readSum 46 = .ok (.aload_n 0, 1) := by decide +kernel
theorem dX7_readSum_47 : decode cX7_readSum 47 = .ok (.invokevirtual 214, 3) := by decide +kernel
theorem dX7_readSum_50 : decode cX7_readSum 50 = .ok (.aload_n 0, 1) := by decide +kernel
theorem dX7_readSum_51 : decode cX7_readSum 51 = .ok (.invokevirtual 258, 3) := by decide +kernel
theorem dX7_readSum_54 : decode cX7_readSum 54 = .ok (.aload_n 0, 1) := by decide +kernel
theorem dX7_readSum_55 : decode cX7_readSum 55 = .ok (.iload_n 1, 1) := by decide +kernel
theorem dX7_readSum_56 : decode cX7_readSum 56 = .ok (.iconst 0, 1) := by decide +kernel
theorem dX7_readSum_57 : decode cX7_readSum 57 = .ok (.invokevirtual 235, 3) := by decide +kernel
theorem dX7_readSum_60 : decode cX7_readSum 60 = .ok (.goto (-56), 3) := by decide +kernel
theorem dX7_readSum_63 : decode cX7_readSum 63 = .ok (.return_, 1) := by decide +kernel
set_option maxRecDepth 20000 in
theorem ggX7_product_X7_one : GoodIn wsX7_product wsX7_one := goodIn_r _ [7, 1, 2, 8, 9, 10, 11, 12, 6, 13, 14, 15, 16, 17, 18, 19, 20, 21, 22, 23, 24, 25, 26, 27, 28, 29, 30, 31, 32, 33, 34, 35, 36, 37, 38, 39, 40, 41, 42, 43, 44, 45, 46, 47, 48, 49, 50, 51, 52, 53, 54, 55, 56, 57, 58, 59, 60, 61, 62, 63, 64, 65, 66, 67, 68, 69, 70, 71, 72, 73, 74, 75, 76, 77, 78, 79, 80, 81, 82, 83, 84, 85, 86, 87, 88, 89, 90, 91, 92, 93, 94, 95, 96, 97, 98, 99, 100, 101, 102, 103, 104, 105, 106, 107, 108, 109, 110, 111, 112, 113, 114, 115, 116, 117, 118, 119] (by decide +kernel) (by decide +kernel)
set_option maxRecDepth 20000 in
theorem gX7_product_X7_one : GoodIn wsX7_product (wsV RX7 261 RX7 yX7_one wsX7_one) := goodIn_app (goodIn_of _ (by decide +kernel)) ggX7_product_X7_one
set_option maxRecDepth 20000 in
theorem ggX7_product_X7_advance : GoodIn wsX7_product wsX7_advance := goodIn_r _ [20, 21, 22, 23, 24, 2, 25, 26, 9, 8, 27, 28, 6, 29, 30, 31, 32, 33, 34, 35, 36, 37, 38, 39, 40, 41, 42, 43, 44, 45, 46, 47, 48, 49, 50, 51, 52, 53, 54, 55, 56, 64, 65, 66, 67, 68, 69, 70, 71, 72, 73, 74, 75, 76, 77, 78, 79, 80, 81, 82, 83, 84, 85, 86, 87, 88, 89, 90, 91, 92, 93, 94, 95, 96, 97, 98, 99, 100, 101, 102, 103, 104, 105, 106, 107, 108, 109, 110, 111, 112, 113, 114, 115, 116, 117, 118, 119] (by decide +kernel) (by decide +kernel)
set_option maxRecDepth 20000 in
theorem gX7_product_X7_advance : GoodIn wsX7_product (wsV RX7 214 RX7 yX7_advance wsX7_advance) := goodIn_app (goodIn_of _ (by decide +kernel)) ggX7_product_X7_advance
set_option maxRecDepth 20000 in
theorem ggX7_product_X7_puts : GoodIn wsX7_product wsX7_puts := goodIn_r _ [13, 14, 15, 16, 64, 65, 66, 67, 68, 69, 70, 71, 72, 73, 74, 75, 76, 77, 78, 79, 80, 81, 82, 83, 84, 85, 86, 87, 88, 89, 90, 91, 92, 93, 94, 95, 96, 97, 98, 99, 100, 101, 102, 103, 104, 105, 106, 107, 108, 109, 110, 111, 112, 113, 114, 115, 116, 117, 118, 119] (by decide +kernel) (by decide +kernel)
set_option maxRecDepth 20000 in
theorem gX7_product_X7_puts : GoodIn wsX7_product (wsV RX7 235 RX7 yX7_puts wsX7_puts) := goodIn_app (goodIn_of _ (by decide +kernel)) ggX7_product_X7_puts
theorem dX7_product_0 : decode cX7_product 0 = .ok (.aload_n 0, 1) := by decide +kernel
theorem dX7_product_1 : decode cX7_product 1 = .ok (.invokevirtual 261, 3) := by decide +kernel
theorem dX7_product_4 : decode cX7_product 4 = .ok (.aload_n 0, 1) := by decide +kernel
theorem dX7_product_5 : decode cX7_product 5 = .ok (.getfield 208, 3) := by decide +kernel
theorem dX7_product_8 : decode cX7_product 8 = .ok (.ifCond .ge 30, 3) := by decide +kernel
theorem dX7_product_11 : decode cX7_product 11 = .ok (.aload_n 0, 1) := by decide +kernel
theorem dX7_product_12 : decode cX7_product 12 = .ok (.getfield 142, 3) := by decide +kernel
theorem dX7_product_15 : decode cX7_product 15 = .ok (.bipush 42, 2) := by decide +kernel
theorem dX7_product_17 : decode cX7_product 17 = .ok (.if_icmp .ne 21, 3) := by decide +kernel
theorem dX7_product_20 : decode cX7_product 20 = .ok (.aload_n 0, 1) := by decide +kernel
theorem dX7_product_21 : decode cX7_product 21 = .ok (.invokevirtual 214, 3) := by decide +kernel
theorem dX7_product_24 : decode cX7_product 24 = .ok (.aload_n 0, 1) := by decide +kernel
theorem dX7_product_25 : decode cX7_product 25 = .ok (.invokevirtual 261, 3) := by decide +kernel
theorem dX7_product_28 : decode cX7_product 28 = .ok (.aload_n 0, 1) := by decide +kernel
theorem dX7_product_29 : decode cX7_product 29 = .ok (.bipush 10, 2) := by decide +kernel
theorem dX7_product_31 : decode cX7_product 31 = .ok (.iconst 0, 1) := by decide +kernel
theorem dX7_product_32 : decode cX7_product 32 = .ok (.invokevirtual 235, 3) := by decide +kernel
theorem dX7_product_35 : decode cX7_product 35 = .ok (.goto (-31), 3) := by decide +kernel
theorem dX7_product_38 : decode cX7_product 38 = .ok (.return_, 1) := by decide +kernel
set_option maxRecDepth 20000 in
theorem ggX7_one_X7_puts : GoodIn wsX7_one wsX7_puts := goodIn_r _ [9, 10, 11, 12, 60, 61, 62, 63, 64, 65, 66, 67, 68, 69, 70, 71, 72, 73, 74, 75, 76, 77, 78, 79, 80, 81, 82, 83, 84, 85, 86, 87, 88, 89, 90, 91, 92, 93, 94, 95, 96, 97, 98, 99, 100, 101, 102, 103, 104, 105, 106, 107, 108, 109, 110, 111, 112, 113, 114, 115] (by decide +kernel) (by decide +kernel)
set_option maxRecDepth 20000 in
theorem gX7_one_X7_puts : GoodIn wsX7_one (wsV RX7 235 RX7 yX7_puts wsX7_puts) := goodIn_app (goodIn_of _ (by decide +kernel)) ggX7_one_X7_puts
set_option maxRecDepth 20000 in
theorem ggX7_one_X7_advance : GoodIn wsX7_one wsX7_advance := goodIn_r _ [16, 17, 18, 19, 20, 2, 21, 22, 4, 3, 23, 24, 8, 25, 26, 27, 28, 29, 30, 31, 32, 33, 34, 35, 36, 37, 38, 39, 40, 41, 42, 43, 44, 45, 46, 47, 48, 49, 50, 51, 52, 60, 61, 62, 63, 64, 65, 66, 67, 68, 69, 70, 71, 72, 73, 74, 75, 76, 77, 78, 79, 80, 81, 82, 83, 84, 85, 86, 87, 88, 89, 90, 91, 92, 93, 94, 95, 96, 97, 98, 99, 100, 101, 102, 103, 104, 105, 106, 107, 108, 109, 110, 111, 112, 113, 114, 115] (by decide +kernel) (by decide +kernel)
set_option maxRecDepth 20000 in
theorem gX7_one_X7_advance : GoodIn wsX7_one (wsV RX7 214 RX7 yX7_advance wsX7_advance) := goodIn_app (goodIn_of _ (by decide +kernel)) ggX7_one_X7_advance
set_option maxRecDepth 20000 in
theorem ggX7_one_X7_in : GoodIn wsX7_one wsX7_in := goodIn_r _ [55] (by decide +kernel) (by decide +kernel)
set_option maxRecDepth 20000 in
theorem gX7_one_X7_in : GoodIn wsX7_one (va_wsS RX7 132 yX7_in wsX7_in) := goodIn_app (goodIn_of _ (by decide +kernel)) ggX7_one_X7_in
set_option maxRecDepth 20000 in
theorem ggX7_one_X7_wrong : GoodIn wsX7_one wsX7_wrong := goodIn_r _ [59, 1, 20, 60, 61, 62, 63, 64, 65, 66, 67, 68, 69, 70, 71, 72, 73, 74, 75, 76, 77, 78, 79, 80, 81, 82, 83, 84, 85, 86, 87, 88, 89, 90, 91, 92, 93, 94, 95, 96, 97, 98, 99, 100, 101, 102, 103, 104, 105, 106, 107, 108, 109, 110, 111, 112, 113, 114, 115] (by decide +kernel) (by decide +kernel)
set_option maxRecDepth 20000 in
theorem gX7_one_X7_wrong : GoodIn wsX7_one (wsV RX7 211 RX7 yX7_wrong wsX7_wrong) := goodIn_app (goodIn_of _ (by decide +kernel)) ggX7_one_X7_wrong
theorem dX7_one_0 : decode cX7_one 0 = .ok (.aload_n 0, 1) := by decide +kernel
theorem dX7_one_1 : decode cX7_one 1 = .ok (.getfield 208, 3) := by decide +kernel
theorem dX7_one_4 : decode cX7_one 4 = .ok (.ifCond .lt 4, 3) := by decide +kernel
theorem dX7_one_7 : decode cX7_one 7 = .ok (.return_, 1) := by decide +kernel
theorem dX7_one_8 : decode cX7_one 8 = .ok (.aload_n 0, 1) := by decide +kernel
theorem dX7_one_9 : decode cX7_one 9 = .ok (.getfield 142, 3) := by decide +kernel
theorem dX7_one_12 : decode cX7_one 12 = .ok (.bipush 50, 2) := by decide +kernel
theorem dX7_one_14 : decode cX7_one 14 = .ok (.if_icmp .ne 28, 3) := by decide +kernel
theorem dX7_one_17 : decode cX7_one 17 = .ok (.aload_n 0, 1) := by decide +kernel
theorem dX7_one_18 : decode cX7_one 18 = .ok (.getfield 163, 3) := by decide +kernel
theorem dX7_one_21 : decode cX7_one 21 = .ok (.bipush 6, 2) := by decide +kernel
theorem dX7_one_23 : decode cX7_one 23 = .ok (.if_icmp .gt 19, 3) := by decide +kernel
theorem dX7_one_26 : decode cX7_one 26 = .ok (.aload_n 0, 1) := by decide +kernel
theorem dX7_one_27 : decode cX7_one 27 = .ok (.iconst 1, 1) := by decide +kernel
theorem dX7_one_28 : decode cX7_one 28 = .ok (.aload_n 0, 1) := by decide +kernel
theorem dX7_one_29 : decode cX7_one 29 = .ok (.getfield 160, 3) := by decide +kernel
theorem dX7_one_32 : decode cX7_one 32 = .ok (.invokevirtual 235, 3) := by decide +kernel
theorem dX7_one_35 : decode cX7_one 35 = .ok (.aload_n 0, 1) := by decide +kernel
theorem dX7_one_36 : decode cX7_one 36 = .ok (.invokevirtual 214, 3) := by decide +kernel
theorem dX7_one_39 : decode cX7_one 39 = .ok (.goto 37, 3) := by decide +kernel
theorem dX7_one_42 : decode cX7_one 42 = .ok (.aload_n 0, 1) := by decide +kernel
theorem dX7_one_43 : decode cX7_one 43 = .ok (.getfield 142, 3) := by decide +kernel
theorem dX7_one_46 : decode cX7_one 46 = .ok (.bipush 111, 2) := by decide +kernel
theorem dX7_one_48 : decode cX7_one 48 = .ok (.bipush 120, 2) := by decide +kernel
theorem dX7_one_50 : decode cX7_one 50 = .ok (.invokestatic 132, 3) := by decide +kernel
theorem dX7_one_53 : decode cX7_one 53 = .ok (.ifCond .eq 19, 3) := by decide +kernel
theorem dX7_one_56 : decode cX7_one 56 = .ok (.aload_n 0, 1) := by decide +kernel
theorem dX7_one_57 : decode cX7_one 57 = .ok (.aload_n 0, 1) := by decide +kernel
theorem dX7_one_58 : decode cX7_one 58 = .ok (.getfield 142, 3) := by decide +kernel
theorem dX7_one_61 : decode cX7_one 61 = .ok (.iconst 0, 1) := by decide +kernel
theorem dX7_one_62 : decode cX7_one 62 = .ok (.invokevirtual 235, 3) := by decide +kernel
theorem dX7_one_65 : decode cX7_one 65 = .ok (.aload_n 0, 1) := by decide +kernel
theorem dX7_one_66 : decode cX7_one 66 = .ok (.invokevirtual 214, 3) := by decide +kernel
theorem dX7_one_69 : decode cX7_one 69 = .ok (.goto 7, 3) := by decide +kernel
theorem dX7_one_72 : decode cX7_one 72 = .ok (.aload_n 0, 1) := by decide +kernel
theorem dX7_one_73 : decode cX7_one 73 = .ok (.invokevirtual 211, 3) := by decide +kernel
theorem dX7_one_76 : decode cX7_one 76 = .ok (.return_, 1) := by decide +kernel
set_option maxRecDepth 20000 in
theorem ggX7_isText_X7_in : GoodIn wsX7_isText wsX7_in := goodIn_r _ [5] (by decide +kernel) (by decide +kernel)
set_option maxRecDepth 20000 in
theorem gX7_isText_X7_in : GoodIn wsX7_isText (va_wsS RX7 132 yX7_in wsX7_in) := goodIn_app (goodIn_of _ (by decide +kernel)) ggX7_isText_X7_in
theorem dX7_isText_0 : decode cX7_isText 0 = .ok (.iload_n 1, 1) := by decide +kernel
theorem dX7_isText_1 : decode cX7_isText 1 = .ok (.iconst 0, 1) := by decide +kernel
theorem dX7_isText_2 : decode cX7_isText 2 = .ok (.aload_n 0, 1) := by decide +kernel
theorem dX7_isText_3 : decode cX7_isText 3 = .ok (.getfield 220, 3) := by decide +kernel
theorem dX7_isText_6 : decode cX7_isText 6 = .ok (.iconst 1, 1) := by decide +kernel
theorem dX7_isText_7 : decode cX7_isText 7 = .ok (.isub, 1) := by decide +kernel
theorem dX7_isText_8 : decode cX7_isText 8 = .ok (.invokestatic 132, 3) := by decide +kernel
theorem dX7_isText_11 : decode cX7_isText 11 = .ok (.ireturn, 1) := by decide +kernel
set_option maxRecDepth 20000 in
theorem ggX7_statements_X7_isText : GoodIn wsX7_statements wsX7_isText := goodIn_r _ [6, 7, 8, 9, 5, 10, 11, 12, 13, 14, 15, 16, 17, 18, 19, 20, 21, 22, 23, 24, 25, 26, 27, 28, 29, 30, 31, 32, 33, 34, 35, 36, 37, 38, 39, 40, 41, 42, 43, 44, 45, 46, 47, 48, 49, 50, 51, 52, 53, 54, 55, 56, 57, 58, 59, 60, 61, 62, 63, 64, 65, 66] (by decide +kernel) (by decide +kernel)
set_option maxRecDepth 20000 in
theorem gX7_statements_X7_isText : GoodIn wsX7_statements (wsV RX7 264 RX7 yX7_isText wsX7_isText) := goodIn_app (goodIn_of _ (by decide +kernel)) ggX7_statements_X7_isText
theorem dX7_statements_0 : decode cX7_statements 0 = .ok (.aload_n 0, 1) := by decide +kernel
theorem dX7_statements_1 : decode cX7_statements 1 = .ok (.iload_n 1, 1) := by decide +kernel
theorem dX7_statements_2 : decode cX7_statements 2 = .ok (.invokevirtual 264, 3) := by decide +kernel
theorem dX7_statements_5 : decode cX7_statements 5 = .ok (.ifCond .eq 12, 3) := by decide +kernel
theorem dX7_statements_8 : decode cX7_statements 8 = .ok (.aload_n 0, 1) := by decide +kernel
theorem dX7_statements_9 : decode cX7_statements 9 = .ok (.getfield 13, 3) := by decide +kernel
theorem dX7_statements_12 : decode cX7_statements 12 = .ok (.iload_n 1, 1) := by decide +kernel
theorem dX7_statements_13 : decode cX7_statements 13 = .ok (.iaload, 1) := by decide +kernel
theorem dX7_statements_14 : decode cX7_statements 14 = .ok (.goto 4, 3) := by decide +kernel
theorem dX7_statements_17 : decode cX7_statements 17 = .ok (.iconst (-1), 1) := by decide +kernel
theorem dX7_statements_18 : decode cX7_statements 18 = .ok (.ireturn, 1) := by decide +kernel
set_option maxRecDepth 20000 in
theorem ggX7_force_X7_isText : GoodIn wsX7_force wsX7_isText := goodIn_r _ [9, 10, 11, 12, 8, 13, 14, 15, 16, 17, 18, 19, 20, 21, 22, 23, 24, 25, 26, 27, 28, 29, 30, 31, 32, 33, 34, 35, 36, 37, 38, 39, 40, 41, 42, 43, 44, 45, 46, 47, 48, 49, 50, 51, 52, 53, 54, 55, 56, 57, 58, 59, 60, 61, 62, 63, 64, 65, 66, 67, 68, 69] (by decide +kernel) (by decide +kernel)
set_option maxRecDepth 20000 in
theorem gX7_force_X7_isText : GoodIn wsX7_force (wsV RX7 264 RX7 yX7_isText wsX7_isText) := goodIn_app (goodIn_of _ (by decide +kernel)) ggX7_force_X7_isText
set_option maxRecDepth 20000 in
theorem ggX7_force_X7_in : GoodIn wsX7_force wsX7_in := goodIn_r _ [13] (by decide +kernel) (by decide +kernel)
set_option maxRecDepth 20000 in
theorem gX7_force_X7_in : GoodIn wsX7_force (va_wsS RX7 132 yX7_in wsX7_in) := goodIn_app (goodIn_of _ (by decide +kernel)) ggX7_force_X7_in
theorem dX7_force_0 : decode cX7_force 0 = .ok (.aload_n 0, 1) := by decide +kernel
theorem dX7_force_1 : decode cX7_force 1 = .ok (.iload_n 1, 1) := by decide +kernel
theorem dX7_force_2 : decode cX7_force 2 = .ok (.invokevirtual 264, 3) := by decide +kernel
theorem dX7_force_5 : decode cX7_force 5 = .ok (.ifCond .eq 17, 3) := by decide +kernel
theorem dX7_force_8 : decode cX7_force 8 = .ok (.iload_n 2, 1) := by decide +kernel
theorem dX7_force_9 : decode cX7_force 9 = .ok (.aload_n 0, 1) := by decide +kernel
theorem dX7_force_10 : decode cX7_force 10 = .ok (.getfield 267, 3) := by decide +kernel
theorem dX7_force_13 : decode cX7_force 13 = .ok (.sipush 1000, 3) := by decide +kernel
theorem dX7_force_16 : decode cX7_force 16 = .ok (.invokestatic 132, 3) := by decide +kernel
theorem dX7_force_19 : decode cX7_force 19 = .ok (.ifCond .ne 5, 3) := by decide +kernel
theorem dX7_force_22 : decode cX7_force 22 = .ok (.iconst (-1), 1) := by decide +kernel
theorem dX7_force_23 : decode cX7_force 23 = .ok (.ireturn, 1) := by decide +kernel
theorem dX7_force_24 : decode cX7_force 24 = .ok (.aload_n 0, 1) := by decide +kernel
theorem dX7_force_25 : decode cX7_force 25 = .ok (.getfield 270, 3) := by decide +kernel
theorem dX7_force_28 : decode cX7_force 28 = .ok (.bipush 40, 2) := by decide +kernel
theorem dX7_force_30 : decode cX7_force 30 = .ok (.if_icmp .ne 6, 3) := by decide +kernel
theorem dX7_force_33 : decode cX7_force 33 = .ok (.bipush (-3), 2) := by decide +kernel
theorem dX7_force_35 : decode cX7_force 35 = .ok (.ireturn, 1) := by decide +kernel
theorem dX7_force_36 : decode cX7_force 36 = .ok (.aload_n 0, 1) := by decide +kernel
theorem dX7_force_37 : decode cX7_force 37 = .ok (.getfield 38, 3) := by decide +kernel
theorem dX7_force_40 : decode cX7_force 40 = .ok (.aload_n 0, 1) := by decide +kernel
theorem dX7_force_41 : decode cX7_force 41 = .ok (.getfield 270, 3) := by decide +kernel
theorem dX7_force_44 : decode cX7_force 44 = .ok (.iload_n 1, 1) := by decide +kernel
theorem dX7_force_45 : decode cX7_force 45 = .ok (.iastore, 1) := by decide +kernel
theorem dX7_force_46 : decode cX7_force 46 = .ok (.aload_n 0, 1) := by decide +kernel
theorem dX7_force_47 : decode cX7_force 47 = .ok (.getfield 41, 3) := by decide +kernel
theorem dX7_force_50 : decode cX7_force 50 = .ok (.aload_n 0, 1) := by decide +kernel
theorem dX7_force_51 : decode cX7_force 51 = .ok (.getfield 270, 3) := by decide +kernel
theorem dX7_force_54 : decode cX7_force 54 = .ok (.iload_n 2, 1) := by decide +kernel
theorem dX7_force_55 : decode cX7_force 55 = .ok (.iastore, 1) := by decide +kernel
theorem dX7_force_56 : decode cX7_force 56 = .ok (.aload_n 0, 1) := by decide +kernel
theorem dX7_force_57 : decode cX7_force 57 = .ok (.dup, 1) := by decide +kernel
theorem dX7_force_58 : decode cX7_force 58 = .ok (.getfield 270, 3) := by decide +kernel
theorem dX7_force_61 : decode cX7_force 61 = .ok (.iconst 1, 1) := by decide +kernel
theorem dX7_force_62 : decode cX7_force 62 = .ok (.iadd, 1) := by decide +kernel
theorem dX7_force_63 : decode cX7_force 63 = .ok (.putfield 270, 3) := by decide +kernel
theorem dX7_force_66 : decode cX7_force 66 = .ok (.iconst 1, 1) := by decide +kernel
theorem dX7_force_67 : decode cX7_force 67 = .ok (.ireturn, 1) := by decide +kernel
theorem dX7_forceAt_0 : decode cX7_forceAt 0 = .ok (.aload_n 0, 1) := by decide +kernel
theorem dX7_forceAt_1 : decode cX7_forceAt 1 = .ok (.getfield 270, 3) := by decide +kernel
theorem dX7_forceAt_4 : decode cX7_forceAt 4 = .ok (.iconst 1, 1) := by decide +kernel
theorem dX7_forceAt_5 : decode cX7_forceAt 5 = .ok (.isub, 1) := by decide +kernel
theorem dX7_forceAt_6 : decode cX7_forceAt 6 = .ok (.istore_n 2, 1) := by decide +kernel
theorem dX7_forceAt_7 : decode cX7_forceAt 7 = .ok (.iload_n 2, 1) := by decide +kernel
theorem dX7_forceAt_8 : decode cX7_forceAt 8 = .ok (.ifCond .lt 26, 3) := by decide +kernel
theorem dX7_forceAt_11 : decode cX7_forceAt 11 = .ok (.aload_n 0, 1) := by decide +kernel
theorem dX7_forceAt_12 : decode cX7_forceAt 12 = .ok (.getfield 41, 3) := by decide +kernel
theorem dX7_forceAt_15 : decode cX7_forceAt 15 = .ok (.iload_n 2, 1) := by decide +kernel
theorem dX7_forceAt_16 : decode cX7_forceAt 16 = .ok (.iaload, 1) := by decide +kernel
theorem dX7_forceAt_17 : decode cX7_forceAt 17 = .ok (.iload_n 1, 1) := by decide +kernel
theorem dX7_forceAt_18 : decode cX7_forceAt 18 = .ok (.if_icmp .gt 10, 3) := by decide +kernel
theorem dX7_forceAt_21 : decode cX7_forceAt 21 = .ok (.aload_n 0, 1) := by decide +kernel
theorem dX7_forceAt_22 : decode cX7_forceAt 22 = .ok (.getfield 38, 3) := by decide +kernel
theorem dX7_forceAt_25 : decode cX7_forceAt 25 = .ok (.iload_n 2, 1) := by decide +kernel
theorem dX7_forceAt_26 : decode cX7_forceAt 26 = .ok (.iaload, 1) := by decide +kernel
theorem dX7_forceAt_27 : decode cX7_forceAt 27 = .ok (.ireturn, 1) := by decide +kernel
theorem dX7_forceAt_28 : decode cX7_forceAt 28 = .ok (.iinc 2 (-1), 3) := by decide +kernel
theorem dX7_forceAt_31 : decode cX7_forceAt 31 = .ok (.goto (-24), 3) := by decide +kernel
theorem dX7_forceAt_34 : decode cX7_forceAt 34 = .ok (.iconst (-1), 1) := by decide +kernel
theorem dX7_forceAt_35 : decode cX7_forceAt 35 = .ok (.ireturn, 1) := by decide +kernel
set_option maxRecDepth 20000 in
theorem ggX7_inForce_X7_in : GoodIn wsX7_inForce wsX7_in := goodIn_r _ [4] (by decide +kernel) (by decide +kernel)
set_option maxRecDepth 20000 in
theorem gX7_inForce_X7_in : GoodIn wsX7_inForce (va_wsS RX7 132 yX7_in wsX7_in) := goodIn_app (goodIn_of _ (by decide +kernel)) ggX7_inForce_X7_in
set_option maxRecDepth 20000 in
theorem ggX7_inForce_X7_forceAt : GoodIn wsX7_inForce wsX7_forceAt := goodIn_r _ [8, 9, 10, 11, 12, 13, 14, 15, 16, 17, 18, 19, 20, 21, 22, 23, 24, 25, 26, 27, 28, 29, 30, 31, 32, 33, 34, 35, 36, 37, 38, 39, 40, 41, 42, 43, 44, 45, 46, 47, 48, 49, 50, 51, 52, 53, 54, 55, 56, 57, 58, 59, 60, 61, 62, 63, 64, 65, 66, 67] (by decide +kernel) (by decide +kernel)
set_option maxRecDepth 20000 in
theorem gX7_inForce_X7_forceAt : GoodIn wsX7_inForce (wsV RX7 273 RX7 yX7_forceAt wsX7_forceAt) := goodIn_app (goodIn_of _ (by decide +kernel)) ggX7_inForce_X7_forceAt
theorem dX7_inForce_0 : decode cX7_inForce 0 = .ok (.iload_n 1, 1) := by decide +kernel
theorem dX7_inForce_1 : decode cX7_inForce 1 = .ok (.iconst 0, 1) := by decide +kernel
theorem dX7_inForce_2 : decode cX7_inForce 2 = .ok (.sipush 1000, 3) := by decide +kernel
theorem dX7_inForce_5 : decode cX7_inForce 5 = .ok (.invokestatic 132, 3) := by decide +kernel
theorem dX7_inForce_8 : decode cX7_inForce 8 = .ok (.ifCond .eq 11, 3) := by decide +kernel
theorem dX7_inForce_11 : decode cX7_inForce 11 = .ok (.aload_n 0, 1) := by decide +kernel
theorem dX7_inForce_12 : decode cX7_inForce 12 = .ok (.iload_n 1, 1) := by decide +kernel
theorem dX7_inForce_13 : decode cX7_inForce 13 = .ok (.invokevirtual 273, 3) := by decide +kernel
theorem dX7_inForce_16 : decode cX7_inForce 16 = .ok (.goto 4, 3) := by decide +kernel
theorem dX7_inForce_19 : decode cX7_inForce 19 = .ok (.iconst (-1), 1) := by decide +kernel
theorem dX7_inForce_20 : decode cX7_inForce 20 = .ok (.ireturn, 1) := by decide +kernel
set_option maxRecDepth 20000 in
theorem ggX7_isPerson_X7_in : GoodIn wsX7_isPerson wsX7_in := goodIn_r _ [4] (by decide +kernel) (by decide +kernel)
set_option maxRecDepth 20000 in
theorem gX7_isPerson_X7_in : GoodIn wsX7_isPerson (va_wsS RX7 132 yX7_in wsX7_in) := goodIn_app (goodIn_of _ (by decide +kernel)) ggX7_isPerson_X7_in
theorem dX7_isPerson_0 : decode cX7_isPerson 0 = .ok (.iload_n 0, 1) := by decide +kernel
theorem dX7_isPerson_1 : decode cX7_isPerson 1 = .ok (.iconst 0, 1) := by decide +kernel
theorem dX7_isPerson_2 : decode cX7_isPerson 2 = .ok (.bipush 15, 2) := by decide +kernel
theorem dX7_isPerson_4 : decode cX7_isPerson 4 = .ok (.invokestatic 132, 3) := by decide +kernel
theorem dX7_isPerson_7 : decode cX7_isPerson 7 = .ok (.ireturn, 1) := by decide +kernel
set_option maxRecDepth 20000 in
theorem ggX7_isDebt_X7_in : GoodIn wsX7_isDebt wsX7_in := goodIn_r _ [5] (by decide +kernel) (by decide +kernel)
set_option maxRecDepth 20000 in
theorem gX7_isDebt_X7_in : GoodIn wsX7_isDebt (va_wsS RX7 132 yX7_in wsX7_in) := goodIn_app (goodIn_of _ (by decide +kernel)) ggX7_isDebt_X7_in
theorem dX7_isDebt_0 : decode cX7_isDebt 0 = .ok (.iload_n 1, 1) := by decide +kernel
theorem dX7_isDebt_1 : decode cX7_isDebt 1 = .ok (.iconst 0, 1) := by decide +kernel
theorem dX7_isDebt_2 : decode cX7_isDebt 2 = .ok (.aload_n 0, 1) := by decide +kernel
theorem dX7_isDebt_3 : decode cX7_isDebt 3 = .ok (.getfield 277, 3) := by decide +kernel
theorem dX7_isDebt_6 : decode cX7_isDebt 6 = .ok (.iconst 1, 1) := by decide +kernel
theorem dX7_isDebt_7 : decode cX7_isDebt 7 = .ok (.isub, 1) := by decide +kernel
theorem dX7_isDebt_8 : decode cX7_isDebt 8 = .ok (.invokestatic 132, 3) := by decide +kernel
theorem dX7_isDebt_11 : decode cX7_isDebt 11 = .ok (.ireturn, 1) := by decide +kernel
set_option maxRecDepth 20000 in
theorem ggX7_shire_X7_in : GoodIn wsX7_shire wsX7_in := goodIn_r _ [7] (by decide +kernel) (by decide +kernel)
set_option maxRecDepth 20000 in
theorem gX7_shire_X7_in : GoodIn wsX7_shire (va_wsS RX7 132 yX7_in wsX7_in) := goodIn_app (goodIn_of _ (by decide +kernel)) ggX7_shire_X7_in
set_option maxRecDepth 20000 in
theorem ggX7_shire_X7_isPerson : GoodIn wsX7_shire wsX7_isPerson := goodIn_r _ [10, 4, 5, 6, 7] (by decide +kernel) (by decide +kernel)
set_option maxRecDepth 20000 in
theorem gX7_shire_X7_isPerson : GoodIn wsX7_shire (va_wsS RX7 281 yX7_isPerson wsX7_isPerson) := goodIn_app (goodIn_of _ (by decide +kernel)) ggX7_shire_X7_isPerson
theorem dX7_shire_0 : decode cX7_shire 0 = .ok (.iload_n 1, 1) := by decide +kernel
theorem dX7_shire_1 : decode cX7_shire 1 = .ok (.iconst 0, 1) := by decide +kernel
theorem dX7_shire_2 : decode cX7_shire 2 = .ok (.bipush 7, 2) := by decide +kernel
theorem dX7_shire_4 : decode cX7_shire 4 = .ok (.invokestatic 132, 3) := by decide +kernel
theorem dX7_shire_7 : decode cX7_shire 7 = .ok (.ifCond .eq 26, 3) := by decide +kernel
theorem dX7_shire_10 : decode cX7_shire 10 = .ok (.iload_n 2, 1) := by decide +kernel
theorem dX7_shire_11 : decode cX7_shire 11 = .ok (.iconst 0, 1) := by decide +kernel
theorem dX7_shire_12 : decode cX7_shire 12 = .ok (.ldc_w 280, 3) := by decide +kernel
theorem dX7_shire_15 : decode cX7_shire 15 = .ok (.invokestatic 132, 3) := by decide +kernel
theorem dX7_shire_18 : decode cX7_shire 18 = .ok (.ifCond .eq 15, 3) := by decide +kernel
theorem dX7_shire_21 : decode cX7_shire 21 = .ok (.iload_n 3, 1) := by decide +kernel
theorem dX7_shire_22 : decode cX7_shire 22 = .ok (.iconst (-1), 1) := by decide +kernel
theorem dX7_shire_23 : decode cX7_shire 23 = .ok (.if_icmp .eq 12, 3) := by decide +kernel
theorem dX7_shire_26 : decode cX7_shire 26 = .ok (.iload_n 3, 1) := by decide +kernel
theorem dX7_shire_27 : decode cX7_shire 27 = .ok (.invokestatic 281, 3) := by decide +kernel
theorem dX7_shire_30 : decode cX7_shire 30 = .ok (.ifCond .ne 5, 3) := by decide +kernel
theorem dX7_shire_33 : decode cX7_shire 33 = .ok (.iconst (-1), 1) := by decide +kernel
theorem dX7_shire_34 : decode cX7_shire 34 = .ok (.ireturn, 1) := by decide +kernel
theorem dX7_shire_35 : decode cX7_shire 35 = .ok (.aload_n 0, 1) := by decide +kernel
theorem dX7_shire_36 : decode cX7_shire 36 = .ok (.getfield 44, 3) := by decide +kernel
theorem dX7_shire_39 : decode cX7_shire 39 = .ok (.iload_n 1, 1) := by decide +kernel
theorem dX7_shire_40 : decode cX7_shire 40 = .ok (.iload_n 2, 1) := by decide +kernel
theorem dX7_shire_41 : decode cX7_shire 41 = .ok (.iastore, 1) := by decide +kernel
theorem dX7_shire_42 : decode cX7_shire 42 = .ok (.aload_n 0, 1) := by decide +kernel
theorem dX7_shire_43 : decode cX7_shire 43 = .ok (.getfield 47, 3) := by decide +kernel
theorem dX7_shire_46 : decode cX7_shire 46 = .ok (.iload_n 1, 1) := by decide +kernel
theorem dX7_shire_47 : decode cX7_shire 47 = .ok (.iload_n 3, 1) := by decide +kernel
theorem dX7_shire_48 : decode cX7_shire 48 = .ok (.iastore, 1) := by decide +kernel
theorem dX7_shire_49 : decode cX7_shire 49 = .ok (.iconst 1, 1) := by decide +kernel
theorem dX7_shire_50 : decode cX7_shire 50 = .ok (.ireturn, 1) := by decide +kernel
theorem dX7_owes_0 : decode cX7_owes 0 = .ok (.aload_n 0, 1) := by decide +kernel
theorem dX7_owes_1 : decode cX7_owes 1 = .ok (.getfield 277, 3) := by decide +kernel
theorem dX7_owes_4 : decode cX7_owes 4 = .ok (.istore 5, 2) := by decide +kernel
theorem dX7_owes_6 : decode cX7_owes 6 = .ok (.aload_n 0, 1) := by decide +kernel
theorem dX7_owes_7 : decode cX7_owes 7 = .ok (.getfield 50, 3) := by decide +kernel
theorem dX7_owes_10 : decode cX7_owes 10 = .ok (.iload 5, 2) := by decide +kernel
theorem dX7_owes_12 : decode cX7_owes 12 = .ok (.iload_n 1, 1) := by decide +kernel
theorem dX7_owes_13 : decode cX7_owes 13 = .ok (.iastore, 1) := by decide +kernel
theorem dX7_owes_14 : decode cX7_owes 14 = .ok (.aload_n 0, 1) := by decide +kernel
theorem dX7_owes_15 : decode cX7_owes 15 = .ok (.getfield 53, 3) := by decide +kernel
theorem dX7_owes_18 : decode cX7_owes 18 = .ok (.iload 5, 2) := by decide +kernel
theorem dX7_owes_20 : decode cX7_owes 20 = .ok (.iload_n 2, 1) := by decide +kernel
theorem dX7_owes_21 : decode cX7_owes 21 = .ok (.iastore, 1) := by decide +kernel
theorem dX7_owes_22 : decode cX7_owes 22 = .ok (.aload_n 0, 1) := by decide +kernel
theorem dX7_owes_23 : decode cX7_owes 23 = .ok (.getfield 56, 3) := by decide +kernel
theorem dX7_owes_26 : decode cX7_owes 26 = .ok (.iload 5, 2) := by decide +kernel
theorem dX7_owes_28 : decode cX7_owes 28 = .ok (.iload_n 3, 1) := by decide +kernel
theorem dX7_owes_29 : decode cX7_owes 29 = .ok (.iastore, 1) := by decide +kernel
theorem dX7_owes_30 : decode cX7_owes 30 = .ok (.aload_n 0, 1) := by decide +kernel
theorem dX7_owes_31 : decode cX7_owes 31 = .ok (.getfield 59, 3) := by decide +kernel
theorem dX7_owes_34 : decode cX7_owes 34 = .ok (.iload 5, 2) := by decide +kernel
theorem dX7_owes_36 : decode cX7_owes 36 = .ok (.iload_n 3, 1) := by decide +kernel
theorem dX7_owes_37 : decode cX7_owes 37 = .ok (.iastore, 1) := by decide +kernel
theorem dX7_owes_38 : decode cX7_owes 38 = .ok (.aload_n 0, 1) := by decide +kernel
theorem dX7_owes_39 : decode cX7_owes 39 = .ok (.getfield 62, 3) := by decide +kernel
theorem dX7_owes_42 : decode cX7_owes 42 = .ok (.iload 5, 2) := by decide +kernel
theorem dX7_owes_44 : decode cX7_owes 44 = .ok (.aload_n 0, 1) := by decide +kernel
theorem dX7_owes_45 : decode cX7_owes 45 = .ok (.getfield 267, 3) := by decide +kernel
theorem dX7_owes_48 : decode cX7_owes 48 = .ok (.iastore, 1) := by decide +kernel
theorem dX7_owes_49 : decode cX7_owes 49 = .ok (.aload_n 0, 1) := by decide +kernel
theorem dX7_owes_50 : decode cX7_owes 50 = .ok (.getfield 65, 3) := by decide +kernel
theorem dX7_owes_53 : decode cX7_owes 53 = .ok (.iload 5, 2) := by decide +kernel
theorem dX7_owes_55 : decode cX7_owes 55 = .ok (.iload 4, 2) := by decide +kernel
theorem dX7_owes_57 : decode cX7_owes 57 = .ok (.iastore, 1) := by decide +kernel
theorem dX7_owes_58 : decode cX7_owes 58 = .ok (.aload_n 0, 1) := by decide +kernel
theorem dX7_owes_59 : decode cX7_owes 59 = .ok (.getfield 68, 3) := by decide +kernel
theorem dX7_owes_62 : decode cX7_owes 62 = .ok (.iload 5, 2) := by decide +kernel
theorem dX7_owes_64 : decode cX7_owes 64 = .ok (.iconst 0, 1) := by decide +kernel
theorem dX7_owes_65 : decode cX7_owes 65 = .ok (.iastore, 1) := by decide +kernel
theorem dX7_owes_66 : decode cX7_owes 66 = .ok (.aload_n 0, 1) := by decide +kernel
theorem dX7_owes_67 : decode cX7_owes 67 = .ok (.dup, 1) := by decide +kernel
theorem dX7_owes_68 : decode cX7_owes 68 = .ok (.getfield 277, 3) := by decide +kernel
theorem dX7_owes_71 : decode cX7_owes 71 = .ok (.iconst 1, 1) := by decide +kernel
theorem dX7_owes_72 : decode cX7_owes 72 = .ok (.iadd, 1) := by decide +kernel
theorem dX7_owes_73 : decode cX7_owes 73 = .ok (.putfield 277, 3) := by decide +kernel
theorem dX7_owes_76 : decode cX7_owes 76 = .ok (.iload 5, 2) := by decide +kernel
theorem dX7_owes_78 : decode cX7_owes 78 = .ok (.ireturn, 1) := by decide +kernel
set_option maxRecDepth 20000 in
theorem ggX7_debt_X7_isPerson : GoodIn wsX7_debt wsX7_isPerson := goodIn_r _ [6, 7, 8, 5, 9] (by decide +kernel) (by decide +kernel)
set_option maxRecDepth 20000 in
theorem gX7_debt_X7_isPerson : GoodIn wsX7_debt (va_wsS RX7 281 yX7_isPerson wsX7_isPerson) := goodIn_app (goodIn_of _ (by decide +kernel)) ggX7_debt_X7_isPerson
set_option maxRecDepth 20000 in
theorem ggX7_debt_X7_in : GoodIn wsX7_debt wsX7_in := goodIn_r _ [9] (by decide +kernel) (by decide +kernel)
set_option maxRecDepth 20000 in
theorem gX7_debt_X7_in : GoodIn wsX7_debt (va_wsS RX7 132 yX7_in wsX7_in) := goodIn_app (goodIn_of _ (by decide +kernel)) ggX7_debt_X7_in
set_option maxRecDepth 20000 in
theorem ggX7_debt_X7_owes : GoodIn wsX7_debt wsX7_owes := goodIn_r _ [13, 2, 14, 15, 16, 17, 18, 19, 20, 21, 22, 23, 24, 25, 26, 27, 28, 29, 30, 31, 32, 33, 34, 35, 36, 37, 38, 39, 40, 41, 42, 43, 44, 45, 46, 47, 48, 49, 50, 51, 52, 53, 54, 55, 56, 57, 58, 59, 60, 61, 62, 63, 64, 65, 66, 67, 68, 69, 70, 71, 72, 73, 74, 75, 76, 77] (by decide +kernel) (by decide +kernel)
set_option maxRecDepth 20000 in
theorem gX7_debt_X7_owes : GoodIn wsX7_debt (wsV RX7 285 RX7 yX7_owes wsX7_owes) := goodIn_app (goodIn_of _ (by decide +kernel)) ggX7_debt_X7_owes
theorem dX7_debt_0 : decode cX7_debt 0 = .ok (.iload_n 1, 1) := by decide +kernel
theorem dX7_debt_1 : decode cX7_debt 1 = .ok (.invokestatic 281, 3) := by decide +kernel
theorem dX7_debt_4 : decode cX7_debt 4 = .ok (.ifCond .eq 23, 3) := by decide +kernel
theorem dX7_debt_7 : decode cX7_debt 7 = .ok (.iload_n 2, 1) := by decide +kernel
theorem dX7_debt_8 : decode cX7_debt 8 = .ok (.iconst 1, 1) := by decide +kernel
theorem dX7_debt_9 : decode cX7_debt 9 = .ok (.iconst 3, 1) := by decide +kernel
theorem dX7_debt_10 : decode cX7_debt 10 = .ok (.invokestatic 132, 3) := by decide +kernel
theorem dX7_debt_13 : decode cX7_debt 13 = .ok (.ifCond .eq 14, 3) := by decide +kernel
theorem dX7_debt_16 : decode cX7_debt 16 = .ok (.iload_n 3, 1) := by decide +kernel
theorem dX7_debt_17 : decode cX7_debt 17 = .ok (.iconst 1, 1) := by decide +kernel
theorem dX7_debt_18 : decode cX7_debt 18 = .ok (.ldc_w 284, 3) := by decide +kernel
theorem dX7_debt_21 : decode cX7_debt 21 = .ok (.invokestatic 132, 3) := by decide +kernel
theorem dX7_debt_24 : decode cX7_debt 24 = .ok (.ifCond .ne 5, 3) := by decide +kernel
theorem dX7_debt_27 : decode cX7_debt 27 = .ok (.iconst (-1), 1) := by decide +kernel
theorem dX7_debt_28 : decode cX7_debt 28 = .ok (.ireturn, 1) := by decide +kernel
theorem dX7_debt_29 : decode cX7_debt 29 = .ok (.iload_n 2, 1) := by decide +kernel
theorem dX7_debt_30 : decode cX7_debt 30 = .ok (.iconst 3, 1) := by decide +kernel
theorem dX7_debt_31 : decode cX7_debt 31 = .ok (.if_icmp .ne 20, 3) := by decide +kernel
theorem dX7_debt_34 : decode cX7_debt 34 = .ok (.iload 4, 2) := by decide +kernel
theorem dX7_debt_36 : decode cX7_debt 36 = .ok (.invokestatic 281, 3) := by decide +kernel
theorem dX7_debt_39 : decode cX7_debt 39 = .ok (.ifCond .eq 18, 3) := by decide +kernel
theorem dX7_debt_42 : decode cX7_debt 42 = .ok (.iload 4, 2) := by decide +kernel
theorem dX7_debt_44 : decode cX7_debt 44 = .ok (.iload_n 1, 1) := by decide +kernel
theorem dX7_debt_45 : decode cX7_debt 45 = .ok (.if_icmp .ne 14, 3) := by decide +kernel
theorem dX7_debt_48 : decode cX7_debt 48 = .ok (.goto 9, 3) := by decide +kernel
theorem dX7_debt_51 : decode cX7_debt 51 = .ok (.iload 4, 2) := by decide +kernel
theorem dX7_debt_53 : decode cX7_debt 53 = .ok (.iconst (-1), 1) := by decide +kernel
theorem dX7_debt_54 : decode cX7_debt 54 = .ok (.if_icmp .eq 5, 3) := by decide +kernel
theorem dX7_debt_57 : decode cX7_debt 57 = .ok (.iconst (-1), 1) := by decide +kernel
theorem dX7_debt_58 : decode cX7_debt 58 = .ok (.ireturn, 1) := by decide +kernel
theorem dX7_debt_59 : decode cX7_debt 59 = .ok (.aload_n 0, 1) := by decide +kernel
theorem dX7_debt_60 : decode cX7_debt 60 = .ok (.getfield 277, 3) := by decide +kernel
theorem dX7_debt_63 : decode cX7_debt 63 = .ok (.sipush 400, 3) := by decide +kernel
theorem dX7_debt_66 : decode cX7_debt 66 = .ok (.if_icmp .ne 8, 3) := by decide +kernel
theorem dX7_debt_69 : decode cX7_debt 69 = .ok (.bipush (-3), 2) := by decide +kernel
theorem dX7_debt_71 : decode cX7_debt 71 = .ok (.goto 12, 3) := by decide +kernel
theorem dX7_debt_74 : decode cX7_debt 74 = .ok (.aload_n 0, 1) := by decide +kernel
theorem dX7_debt_75 : decode cX7_debt 75 = .ok (.iload_n 1, 1) := by decide +kernel
theorem dX7_debt_76 : decode cX7_debt 76 = .ok (.iload_n 2, 1) := by decide +kernel
theorem dX7_debt_77 : decode cX7_debt 77 = .ok (.iload_n 3, 1) := by decide +kernel
theorem dX7_debt_78 : decode cX7_debt 78 = .ok (.iload 4, 2) := by decide +kernel
theorem dX7_debt_80 : decode cX7_debt 80 = .ok (.invokevirtual 285, 3) := by decide +kernel
theorem dX7_debt_83 : decode cX7_debt 83 = .ok (.ireturn, 1) := by decide +kernel
set_option maxRecDepth 20000 in
theorem ggX7_term_X7_owes : GoodIn wsX7_term wsX7_owes := goodIn_r _ [9, 4, 10, 11, 12, 13, 14, 1, 15, 16, 17, 18, 19, 20, 21, 22, 23, 24, 25, 26, 27, 28, 29, 30, 31, 32, 33, 34, 35, 36, 37, 38, 39, 40, 41, 42, 43, 44, 45, 46, 47, 48, 49, 50, 51, 52, 53, 54, 55, 56, 57, 58, 59, 60, 61, 62, 63, 64, 65, 66, 67, 68, 69, 70, 71, 72] (by decide +kernel) (by decide +kernel)
set_option maxRecDepth 20000 in
theorem gX7_term_X7_owes : GoodIn wsX7_term (wsV RX7 285 RX7 yX7_owes wsX7_owes) := goodIn_app (goodIn_of _ (by decide +kernel)) ggX7_term_X7_owes
theorem dX7_term_0 : decode cX7_term 0 = .ok (.aload_n 0, 1) := by decide +kernel
theorem dX7_term_1 : decode cX7_term 1 = .ok (.getfield 267, 3) := by decide +kernel
theorem dX7_term_4 : decode cX7_term 4 = .ok (.sipush 1000, 3) := by decide +kernel
theorem dX7_term_7 : decode cX7_term 7 = .ok (.if_icmp .ne 5, 3) := by decide +kernel
theorem dX7_term_10 : decode cX7_term 10 = .ok (.iconst (-1), 1) := by decide +kernel
theorem dX7_term_11 : decode cX7_term 11 = .ok (.ireturn, 1) := by decide +kernel
theorem dX7_term_12 : decode cX7_term 12 = .ok (.iconst 0, 1) := by decide +kernel
theorem dX7_term_13 : decode cX7_term 13 = .ok (.istore_n 1, 1) := by decide +kernel
theorem dX7_term_14 : decode cX7_term 14 = .ok (.iconst 0, 1) := by decide +kernel
theorem dX7_term_15 : decode cX7_term 15 = .ok (.istore_n 2, 1) := by decide +kernel
theorem dX7_term_16 : decode cX7_term 16 = .ok (.iload_n 2, 1) := by decide +kernel
theorem dX7_term_17 : decode cX7_term 17 = .ok (.bipush 8, 2) := by decide +kernel
theorem dX7_term_19 : decode cX7_term 19 = .ok (.if_icmp .ge 45, 3) := by decide +kernel
theorem dX7_term_22 : decode cX7_term 22 = .ok (.iload_n 1, 1) := by decide +kernel
theorem dX7_term_23 : decode cX7_term 23 = .ok (.aload_n 0, 1) := by decide +kernel
theorem dX7_term_24 : decode cX7_term 24 = .ok (.getfield 267, 3) := by decide +kernel
theorem dX7_term_27 : decode cX7_term 27 = .ok (.iconst 2, 1) := by decide +kernel
theorem dX7_term_28 : decode cX7_term 28 = .ok (.irem, 1) := by decide +kernel
theorem dX7_term_29 : decode cX7_term 29 = .ok (.iconst 1, 1) := by decide +kernel
theorem dX7_term_30 : decode cX7_term 30 = .ok (.if_icmp .ne 25, 3) := by decide +kernel
theorem dX7_term_33 : decode cX7_term 33 = .ok (.aload_n 0, 1) := by decide +kernel
theorem dX7_term_34 : decode cX7_term 34 = .ok (.getfield 44, 3) := by decide +kernel
theorem dX7_term_37 : decode cX7_term 37 = .ok (.iload_n 2, 1) := by decide +kernel
theorem dX7_term_38 : decode cX7_term 38 = .ok (.iaload, 1) := by decide +kernel
theorem dX7_term_39 : decode cX7_term 39 = .ok (.ifCond .le 16, 3) := by decide +kernel
theorem dX7_term_42 : decode cX7_term 42 = .ok (.aload_n 0, 1) := by decide +kernel
theorem dX7_term_43 : decode cX7_term 43 = .ok (.getfield 47, 3) := by decide +kernel
theorem dX7_term_46 : decode cX7_term 46 = .ok (.iload_n 2, 1) := by decide +kernel
theorem dX7_term_47 : decode cX7_term 47 = .ok (.iaload, 1) := by decide +kernel
theorem dX7_term_48 : decode cX7_term 48 = .ok (.ifCond .lt 7, 3) := by decide +kernel
theorem dX7_term_51 : decode cX7_term 51 = .ok (.iconst 1, 1) := by decide +kernel
theorem dX7_term_52 : decode cX7_term 52 = .ok (.goto 4, 3) := by decide +kernel
theorem dX7_term_55 : decode cX7_term 55 = .ok (.iconst 0, 1) := by decide +kernel
theorem dX7_term_56 : decode cX7_term 56 = .ok (.iadd, 1) := by decide +kernel
theorem dX7_term_57 : decode cX7_term 57 = .ok (.istore_n 1, 1) := by decide +kernel
