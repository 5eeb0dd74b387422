theorem dX6_init_170 : decode cX6_init 170 = .ok (.aload_n 0, 1) := by decide +kernel
theorem dX6_init_171 : decode cX6_init 171 = .ok (.getfield 62, 3) := by decide +kernel
theorem dX6_init_174 : decode cX6_init 174 = .ok (.iconst (-1), 1) := by decide +kernel
theorem dX6_init_175 : decode cX6_init 175 = .ok (.invokestatic 81, 3) := by decide +kernel
theorem dX6_init_178 : decode cX6_init 178 = .ok (.return_, 1) := by decide +kernel
set_option maxRecDepth 20000 in
theorem ggX6_feed_X3_hasRoom : GoodIn wsX6_feed wsX3_hasRoom := goodIn_r _ [5, 6, 30, 31] (by decide +kernel) (by decide +kernel)
set_option maxRecDepth 20000 in
theorem gX6_feed_X3_hasRoom_n87 : GoodIn wsX6_feed (wsX3_hasRoom) := ggX6_feed_X3_hasRoom
set_option maxRecDepth 20000 in
theorem ggX6_feed_X3_addFour : GoodIn wsX6_feed wsX3_addFour := goodIn_r _ [9, 10, 6, 11, 2, 4, 3, 5, 30, 31] (by decide +kernel) (by decide +kernel)
set_option maxRecDepth 20000 in
theorem gX6_feed_X3_addFour_n91 : GoodIn wsX6_feed (wsX3_addFour) := ggX6_feed_X3_addFour
theorem dX6_feed_0 : decode cX6_feed 0 = .ok (.aload_n 0, 1) := by decide +kernel
theorem dX6_feed_1 : decode cX6_feed 1 = .ok (.getfield 10, 3) := by decide +kernel
theorem dX6_feed_4 : decode cX6_feed 4 = .ok (.bipush 20, 2) := by decide +kernel
theorem dX6_feed_6 : decode cX6_feed 6 = .ok (.invokevirtual 87, 3) := by decide +kernel
theorem dX6_feed_9 : decode cX6_feed 9 = .ok (.ifCond .ne 6, 3) := by decide +kernel
theorem dX6_feed_12 : decode cX6_feed 12 = .ok (.bipush (-3), 2) := by decide +kernel
theorem dX6_feed_14 : decode cX6_feed 14 = .ok (.ireturn, 1) := by decide +kernel
theorem dX6_feed_15 : decode cX6_feed 15 = .ok (.aload_n 0, 1) := by decide +kernel
theorem dX6_feed_16 : decode cX6_feed 16 = .ok (.getfield 10, 3) := by decide +kernel
theorem dX6_feed_19 : decode cX6_feed 19 = .ok (.iload_n 1, 1) := by decide +kernel
theorem dX6_feed_20 : decode cX6_feed 20 = .ok (.invokevirtual 91, 3) := by decide +kernel
theorem dX6_feed_23 : decode cX6_feed 23 = .ok (.aload_n 0, 1) := by decide +kernel
theorem dX6_feed_24 : decode cX6_feed 24 = .ok (.getfield 10, 3) := by decide +kernel
theorem dX6_feed_27 : decode cX6_feed 27 = .ok (.iload_n 2, 1) := by decide +kernel
theorem dX6_feed_28 : decode cX6_feed 28 = .ok (.invokevirtual 91, 3) := by decide +kernel
theorem dX6_feed_31 : decode cX6_feed 31 = .ok (.aload_n 0, 1) := by decide +kernel
theorem dX6_feed_32 : decode cX6_feed 32 = .ok (.getfield 10, 3) := by decide +kernel
theorem dX6_feed_35 : decode cX6_feed 35 = .ok (.iload_n 3, 1) := by decide +kernel
theorem dX6_feed_36 : decode cX6_feed 36 = .ok (.invokevirtual 91, 3) := by decide +kernel
theorem dX6_feed_39 : decode cX6_feed 39 = .ok (.aload_n 0, 1) := by decide +kernel
theorem dX6_feed_40 : decode cX6_feed 40 = .ok (.getfield 10, 3) := by decide +kernel
theorem dX6_feed_43 : decode cX6_feed 43 = .ok (.iload 4, 2) := by decide +kernel
theorem dX6_feed_45 : decode cX6_feed 45 = .ok (.invokevirtual 91, 3) := by decide +kernel
theorem dX6_feed_48 : decode cX6_feed 48 = .ok (.aload_n 0, 1) := by decide +kernel
theorem dX6_feed_49 : decode cX6_feed 49 = .ok (.getfield 10, 3) := by decide +kernel
theorem dX6_feed_52 : decode cX6_feed 52 = .ok (.iload 5, 2) := by decide +kernel
theorem dX6_feed_54 : decode cX6_feed 54 = .ok (.invokevirtual 91, 3) := by decide +kernel
theorem dX6_feed_57 : decode cX6_feed 57 = .ok (.aload_n 0, 1) := by decide +kernel
theorem dX6_feed_58 : decode cX6_feed 58 = .ok (.getfield 10, 3) := by decide +kernel
theorem dX6_feed_61 : decode cX6_feed 61 = .ok (.getfield 95, 3) := by decide +kernel
theorem dX6_feed_64 : decode cX6_feed 64 = .ok (.ireturn, 1) := by decide +kernel
theorem dX6_end_0 : decode cX6_end 0 = .ok (.iload_n 1, 1) := by decide +kernel
theorem dX6_end_1 : decode cX6_end 1 = .ok (.ifCond .lt 14, 3) := by decide +kernel
theorem dX6_end_4 : decode cX6_end 4 = .ok (.iload_n 1, 1) := by decide +kernel
theorem dX6_end_5 : decode cX6_end 5 = .ok (.aload_n 0, 1) := by decide +kernel
theorem dX6_end_6 : decode cX6_end 6 = .ok (.getfield 10, 3) := by decide +kernel
theorem dX6_end_9 : decode cX6_end 9 = .ok (.getfield 95, 3) := by decide +kernel
theorem dX6_end_12 : decode cX6_end 12 = .ok (.if_icmp .le 5, 3) := by decide +kernel
theorem dX6_end_15 : decode cX6_end 15 = .ok (.iconst (-1), 1) := by decide +kernel
theorem dX6_end_16 : decode cX6_end 16 = .ok (.ireturn, 1) := by decide +kernel
theorem dX6_end_17 : decode cX6_end 17 = .ok (.aload_n 0, 1) := by decide +kernel
theorem dX6_end_18 : decode cX6_end 18 = .ok (.getfield 10, 3) := by decide +kernel
theorem dX6_end_21 : decode cX6_end 21 = .ok (.iload_n 1, 1) := by decide +kernel
theorem dX6_end_22 : decode cX6_end 22 = .ok (.putfield 95, 3) := by decide +kernel
theorem dX6_end_25 : decode cX6_end 25 = .ok (.iload_n 1, 1) := by decide +kernel
theorem dX6_end_26 : decode cX6_end 26 = .ok (.ireturn, 1) := by decide +kernel
set_option maxRecDepth 20000 in
theorem ggX6_text_X1_readTape : GoodIn wsX6_text wsX1_readTape := goodIn_r _ [8, 9, 10, 11, 12, 13, 14, 15, 16, 17, 18, 19, 20, 6, 21, 22, 23, 24, 25, 26, 27, 28, 29, 30, 31, 32, 33, 34, 35, 36, 37, 38, 39, 40, 41, 42, 43, 44, 45, 46, 47, 48, 49, 50, 51, 52, 53, 54, 55, 56, 57, 58, 59, 60, 61, 62, 63, 64, 65, 66, 67, 68, 69, 70, 71, 72, 73, 74, 75, 76, 77, 78, 79, 80, 81, 82, 83, 84, 85, 86, 87, 88, 89, 90, 91, 92, 93, 94, 95, 96, 97, 98, 99, 100, 101, 102, 103, 104, 105, 106, 107, 108, 109, 110, 111, 112, 113, 114, 115, 116, 117, 118, 119, 120, 121, 122, 123, 124, 125, 126, 127, 128, 129, 130, 131, 132, 133, 134, 135, 136, 137, 138, 139, 140, 141, 142, 143, 144, 145, 146, 147, 148, 149, 150, 151, 152, 153, 154, 155, 156, 157, 158, 159, 160, 161, 162, 163, 164, 165, 166, 167, 168, 169, 170, 171, 172, 173, 174, 175, 176, 177, 178, 230, 231, 232, 233, 234, 235, 236, 237, 238, 239, 240, 241, 242, 243, 244, 245, 246, 228, 229] (by decide +kernel) (by decide +kernel)
set_option maxRecDepth 20000 in
theorem gX6_text_X1_readTape_n102 : GoodIn wsX6_text (wsX1_readTape) := ggX6_text_X1_readTape
set_option maxRecDepth 20000 in
theorem ggX6_text_X1_lastText : GoodIn wsX6_text wsX1_lastText := goodIn_r _ [181, 182, 183, 184, 128, 15, 129, 123, 150, 16, 185, 186, 187, 188, 189, 190, 191, 192, 193, 194, 195, 196, 103, 104, 105, 197, 198, 199, 200, 201, 202, 203, 204, 205, 206, 207, 208, 209, 247, 248, 249, 250, 230, 231, 232, 233, 234, 235, 236, 237, 238, 239, 240, 241, 242, 243, 244, 245, 246] (by decide +kernel) (by decide +kernel)
set_option maxRecDepth 20000 in
theorem gX6_text_X1_lastText_n109 : GoodIn wsX6_text (wsX1_lastText) := ggX6_text_X1_lastText
theorem dX6_text_0 : decode cX6_text 0 = .ok (.aload_n 0, 1) := by decide +kernel
theorem dX6_text_1 : decode cX6_text 1 = .ok (.getfield 99, 3) := by decide +kernel
theorem dX6_text_4 : decode cX6_text 4 = .ok (.bipush 10, 2) := by decide +kernel
theorem dX6_text_6 : decode cX6_text 6 = .ok (.if_icmp .lt 6, 3) := by decide +kernel
theorem dX6_text_9 : decode cX6_text 9 = .ok (.bipush (-3), 2) := by decide +kernel
theorem dX6_text_11 : decode cX6_text 11 = .ok (.ireturn, 1) := by decide +kernel
theorem dX6_text_12 : decode cX6_text 12 = .ok (.aload_n 0, 1) := by decide +kernel
theorem dX6_text_13 : decode cX6_text 13 = .ok (.getfield 21, 3) := by decide +kernel
theorem dX6_text_16 : decode cX6_text 16 = .ok (.invokevirtual 102, 3) := by decide +kernel
theorem dX6_text_19 : decode cX6_text 19 = .ok (.istore_n 1, 1) := by decide +kernel
theorem dX6_text_20 : decode cX6_text 20 = .ok (.aload_n 0, 1) := by decide +kernel
theorem dX6_text_21 : decode cX6_text 21 = .ok (.getfield 10, 3) := by decide +kernel
theorem dX6_text_24 : decode cX6_text 24 = .ok (.iconst 0, 1) := by decide +kernel
theorem dX6_text_25 : decode cX6_text 25 = .ok (.putfield 95, 3) := by decide +kernel
theorem dX6_text_28 : decode cX6_text 28 = .ok (.iload_n 1, 1) := by decide +kernel
theorem dX6_text_29 : decode cX6_text 29 = .ok (.ifCond .ne 14, 3) := by decide +kernel
theorem dX6_text_32 : decode cX6_text 32 = .ok (.bipush (-100), 2) := by decide +kernel
theorem dX6_text_34 : decode cX6_text 34 = .ok (.aload_n 0, 1) := by decide +kernel
theorem dX6_text_35 : decode cX6_text 35 = .ok (.getfield 21, 3) := by decide +kernel
theorem dX6_text_38 : decode cX6_text 38 = .ok (.getfield 106, 3) := by decide +kernel
theorem dX6_text_41 : decode cX6_text 41 = .ok (.isub, 1) := by decide +kernel
theorem dX6_text_42 : decode cX6_text 42 = .ok (.ireturn, 1) := by decide +kernel
theorem dX6_text_43 : decode cX6_text 43 = .ok (.aload_n 0, 1) := by decide +kernel
theorem dX6_text_44 : decode cX6_text 44 = .ok (.getfield 34, 3) := by decide +kernel
theorem dX6_text_47 : decode cX6_text 47 = .ok (.aload_n 0, 1) := by decide +kernel
theorem dX6_text_48 : decode cX6_text 48 = .ok (.getfield 99, 3) := by decide +kernel
theorem dX6_text_51 : decode cX6_text 51 = .ok (.aload_n 0, 1) := by decide +kernel
theorem dX6_text_52 : decode cX6_text 52 = .ok (.getfield 21, 3) := by decide +kernel
theorem dX6_text_55 : decode cX6_text 55 = .ok (.invokevirtual 109, 3) := by decide +kernel
theorem dX6_text_58 : decode cX6_text 58 = .ok (.aastore, 1) := by decide +kernel
theorem dX6_text_59 : decode cX6_text 59 = .ok (.aload_n 0, 1) := by decide +kernel
theorem dX6_text_60 : decode cX6_text 60 = .ok (.dup, 1) := by decide +kernel
theorem dX6_text_61 : decode cX6_text 61 = .ok (.getfield 99, 3) := by decide +kernel
theorem dX6_text_64 : decode cX6_text 64 = .ok (.dup_x1, 1) := by decide +kernel
theorem dX6_text_65 : decode cX6_text 65 = .ok (.iconst 1, 1) := by decide +kernel
theorem dX6_text_66 : decode cX6_text 66 = .ok (.iadd, 1) := by decide +kernel
theorem dX6_text_67 : decode cX6_text 67 = .ok (.putfield 99, 3) := by decide +kernel
theorem dX6_text_70 : decode cX6_text 70 = .ok (.ireturn, 1) := by decide +kernel
set_option maxRecDepth 20000 in
theorem ggX6_statements_X6_textOf : GoodIn wsX6_statements wsX6_textOf := goodIn_r _ [5, 6, 7, 12, 13, 14, 15, 16, 17, 18, 19, 20, 21, 22, 23, 24, 25, 26, 27, 28, 29] (by decide +kernel) (by decide +kernel)
set_option maxRecDepth 20000 in
theorem gX6_statements_X6_textOf : GoodIn wsX6_statements (wsV RX6 113 RX6 yX6_textOf wsX6_textOf) := goodIn_app (goodIn_of _ (by decide +kernel)) ggX6_statements_X6_textOf
theorem dX6_statements_0 : decode cX6_statements 0 = .ok (.aload_n 0, 1) := by decide +kernel
theorem dX6_statements_1 : decode cX6_statements 1 = .ok (.iload_n 1, 1) := by decide +kernel
theorem dX6_statements_2 : decode cX6_statements 2 = .ok (.invokevirtual 113, 3) := by decide +kernel
theorem dX6_statements_5 : decode cX6_statements 5 = .ok (.astore_n 2, 1) := by decide +kernel
theorem dX6_statements_6 : decode cX6_statements 6 = .ok (.aload_n 2, 1) := by decide +kernel
theorem dX6_statements_7 : decode cX6_statements 7 = .ok (.ifnonnull 7, 3) := by decide +kernel
theorem dX6_statements_10 : decode cX6_statements 10 = .ok (.iconst (-1), 1) := by decide +kernel
theorem dX6_statements_11 : decode cX6_statements 11 = .ok (.goto 8, 3) := by decide +kernel
theorem dX6_statements_14 : decode cX6_statements 14 = .ok (.aload_n 2, 1) := by decide +kernel
theorem dX6_statements_15 : decode cX6_statements 15 = .ok (.getfield 117, 3) := by decide +kernel
theorem dX6_statements_18 : decode cX6_statements 18 = .ok (.arraylength, 1) := by decide +kernel
theorem dX6_statements_19 : decode cX6_statements 19 = .ok (.ireturn, 1) := by decide +kernel
set_option maxRecDepth 20000 in
theorem ggX6_force_X6_textOf : GoodIn wsX6_force wsX6_textOf := goodIn_r _ [7, 8, 9, 48, 49, 50, 51, 52, 53, 54, 55, 56, 57, 58, 59, 60, 61, 62, 63, 64, 65] (by decide +kernel) (by decide +kernel)
set_option maxRecDepth 20000 in
theorem gX6_force_X6_textOf : GoodIn wsX6_force (wsV RX6 113 RX6 yX6_textOf wsX6_textOf) := goodIn_app (goodIn_of _ (by decide +kernel)) ggX6_force_X6_textOf
set_option maxRecDepth 20000 in
theorem ggX6_force_X2_add : GoodIn wsX6_force wsX2_add := goodIn_r _ [13, 14, 15, 16, 17, 18, 19, 11, 20, 21, 22, 23, 24, 25, 26, 27, 28, 29, 30, 31, 32, 33, 34, 35, 36, 37, 38, 39, 40, 66, 67, 68, 69] (by decide +kernel) (by decide +kernel)
set_option maxRecDepth 20000 in
theorem gX6_force_X2_add_n123 : GoodIn wsX6_force (wsX2_add) := ggX6_force_X2_add
set_option maxRecDepth 20000 in
theorem ggX6_force_X2_set : GoodIn wsX6_force wsX2_set := goodIn_r _ [43, 16, 15, 44, 45, 46, 11, 47, 14, 66, 67, 68, 69] (by decide +kernel) (by decide +kernel)
set_option maxRecDepth 20000 in
theorem gX6_force_X2_set_n127 : GoodIn wsX6_force (wsX2_set) := ggX6_force_X2_set
theorem dX6_force_0 : decode cX6_force 0 = .ok (.aload_n 0, 1) := by decide +kernel
theorem dX6_force_1 : decode cX6_force 1 = .ok (.iload_n 1, 1) := by decide +kernel
theorem dX6_force_2 : decode cX6_force 2 = .ok (.invokevirtual 113, 3) := by decide +kernel
theorem dX6_force_5 : decode cX6_force 5 = .ok (.ifnull 18, 3) := by decide +kernel
theorem dX6_force_8 : decode cX6_force 8 = .ok (.iload_n 2, 1) := by decide +kernel
theorem dX6_force_9 : decode cX6_force 9 = .ok (.aload_n 0, 1) := by decide +kernel
theorem dX6_force_10 : decode cX6_force 10 = .ok (.getfield 120, 3) := by decide +kernel
theorem dX6_force_13 : decode cX6_force 13 = .ok (.if_icmp .lt 10, 3) := by decide +kernel
theorem dX6_force_16 : decode cX6_force 16 = .ok (.iload_n 2, 1) := by decide +kernel
theorem dX6_force_17 : decode cX6_force 17 = .ok (.sipush 1000, 3) := by decide +kernel
theorem dX6_force_20 : decode cX6_force 20 = .ok (.if_icmp .le 5, 3) := by decide +kernel
theorem dX6_force_23 : decode cX6_force 23 = .ok (.iconst (-1), 1) := by decide +kernel
theorem dX6_force_24 : decode cX6_force 24 = .ok (.ireturn, 1) := by decide +kernel
theorem dX6_force_25 : decode cX6_force 25 = .ok (.aload_n 0, 1) := by decide +kernel
theorem dX6_force_26 : decode cX6_force 26 = .ok (.getfield 43, 3) := by decide +kernel
theorem dX6_force_29 : decode cX6_force 29 = .ok (.invokevirtual 123, 3) := by decide +kernel
theorem dX6_force_32 : decode cX6_force 32 = .ok (.istore_n 3, 1) := by decide +kernel
theorem dX6_force_33 : decode cX6_force 33 = .ok (.iload_n 3, 1) := by decide +kernel
theorem dX6_force_34 : decode cX6_force 34 = .ok (.ifCond .ge 6, 3) := by decide +kernel
theorem dX6_force_37 : decode cX6_force 37 = .ok (.bipush (-3), 2) := by decide +kernel
theorem dX6_force_39 : decode cX6_force 39 = .ok (.ireturn, 1) := by decide +kernel
theorem dX6_force_40 : decode cX6_force 40 = .ok (.aload_n 0, 1) := by decide +kernel
theorem dX6_force_41 : decode cX6_force 41 = .ok (.getfield 43, 3) := by decide +kernel
theorem dX6_force_44 : decode cX6_force 44 = .ok (.iload_n 3, 1) := by decide +kernel
theorem dX6_force_45 : decode cX6_force 45 = .ok (.iconst 0, 1) := by decide +kernel
theorem dX6_force_46 : decode cX6_force 46 = .ok (.iload_n 1, 1) := by decide +kernel
theorem dX6_force_47 : decode cX6_force 47 = .ok (.invokevirtual 127, 3) := by decide +kernel
theorem dX6_force_50 : decode cX6_force 50 = .ok (.aload_n 0, 1) := by decide +kernel
theorem dX6_force_51 : decode cX6_force 51 = .ok (.getfield 43, 3) := by decide +kernel
theorem dX6_force_54 : decode cX6_force 54 = .ok (.iload_n 3, 1) := by decide +kernel
theorem dX6_force_55 : decode cX6_force 55 = .ok (.iconst 1, 1) := by decide +kernel
theorem dX6_force_56 : decode cX6_force 56 = .ok (.iload_n 2, 1) := by decide +kernel
theorem dX6_force_57 : decode cX6_force 57 = .ok (.invokevirtual 127, 3) := by decide +kernel
theorem dX6_force_60 : decode cX6_force 60 = .ok (.iconst 1, 1) := by decide +kernel
theorem dX6_force_61 : decode cX6_force 61 = .ok (.ireturn, 1) := by decide +kernel
set_option maxRecDepth 20000 in
theorem ggX6_inForce_X6_textInForce : GoodIn wsX6_inForce wsX6_textInForce := goodIn_r _ [5, 6, 7, 8, 9, 10, 11, 12, 13, 14, 15, 16, 17, 18, 19, 20, 21, 22, 23, 24, 25, 26, 27, 28, 29, 30, 31, 32, 33, 34, 35, 36, 37, 38, 39] (by decide +kernel) (by decide +kernel)
set_option maxRecDepth 20000 in
theorem gX6_inForce_X6_textInForce : GoodIn wsX6_inForce (wsV RX6 131 RX6 yX6_textInForce wsX6_textInForce) := goodIn_app (goodIn_of _ (by decide +kernel)) ggX6_inForce_X6_textInForce
theorem dX6_inForce_0 : decode cX6_inForce 0 = .ok (.iload_n 1, 1) := by decide +kernel
theorem dX6_inForce_1 : decode cX6_inForce 1 = .ok (.ifCond .lt 10, 3) := by decide +kernel
theorem dX6_inForce_4 : decode cX6_inForce 4 = .ok (.iload_n 1, 1) := by decide +kernel
theorem dX6_inForce_5 : decode cX6_inForce 5 = .ok (.sipush 1000, 3) := by decide +kernel
theorem dX6_inForce_8 : decode cX6_inForce 8 = .ok (.if_icmp .le 7, 3) := by decide +kernel
theorem dX6_inForce_11 : decode cX6_inForce 11 = .ok (.iconst (-1), 1) := by decide +kernel
theorem dX6_inForce_12 : decode cX6_inForce 12 = .ok (.goto 8, 3) := by decide +kernel
theorem dX6_inForce_15 : decode cX6_inForce 15 = .ok (.aload_n 0, 1) := by decide +kernel
theorem dX6_inForce_16 : decode cX6_inForce 16 = .ok (.iload_n 1, 1) := by decide +kernel
theorem dX6_inForce_17 : decode cX6_inForce 17 = .ok (.invokevirtual 131, 3) := by decide +kernel
theorem dX6_inForce_20 : decode cX6_inForce 20 = .ok (.ireturn, 1) := by decide +kernel
set_option maxRecDepth 20000 in
theorem ggX6_would_X6_textOf : GoodIn wsX6_would wsX6_textOf := goodIn_r _ [8, 9, 10, 85, 86, 87, 88, 89, 90, 91, 92, 93, 94, 95, 96, 97, 98, 99, 100, 101, 102] (by decide +kernel) (by decide +kernel)
set_option maxRecDepth 20000 in
theorem gX6_would_X6_textOf : GoodIn wsX6_would (wsV RX6 113 RX6 yX6_textOf wsX6_textOf) := goodIn_app (goodIn_of _ (by decide +kernel)) ggX6_would_X6_textOf
set_option maxRecDepth 20000 in
theorem ggX6_would_X6_isOwed : GoodIn wsX6_would wsX6_isOwed := goodIn_r _ [14, 2, 15, 16, 17, 18, 19, 20, 21, 22, 23, 24, 25, 85, 86, 87, 88, 89, 90, 91, 92, 93, 94, 95, 96, 97, 98, 99, 100, 101, 102, 103, 104, 105, 106] (by decide +kernel) (by decide +kernel)
set_option maxRecDepth 20000 in
theorem gX6_would_X6_isOwed : GoodIn wsX6_would (wsV RX6 135 RX6 yX6_isOwed wsX6_isOwed) := goodIn_app (goodIn_of _ (by decide +kernel)) ggX6_would_X6_isOwed
set_option maxRecDepth 20000 in
theorem ggX6_would_X2_get : GoodIn wsX6_would wsX2_get := goodIn_r _ [23, 24, 20, 25, 15, 17, 16, 18, 19, 103, 104, 105, 106] (by decide +kernel) (by decide +kernel)
set_option maxRecDepth 20000 in
theorem gX6_would_X2_get_n139 : GoodIn wsX6_would (wsX2_get) := ggX6_would_X2_get
set_option maxRecDepth 20000 in
theorem ggX6_would_X6_leftOf : GoodIn wsX6_would wsX6_leftOf := goodIn_r _ [29, 2, 30, 31, 32, 7, 33, 11, 12, 13, 14, 15, 16, 17, 18, 19, 20, 21, 22, 23, 24, 25, 85, 86, 87, 88, 89, 90, 91, 92, 93, 94, 95, 96, 97, 98, 99, 100, 101, 102, 103, 104, 105, 106] (by decide +kernel) (by decide +kernel)
set_option maxRecDepth 20000 in
theorem gX6_would_X6_leftOf : GoodIn wsX6_would (wsV RX6 143 RX6 yX6_leftOf wsX6_leftOf) := goodIn_app (goodIn_of _ (by decide +kernel)) ggX6_would_X6_leftOf
set_option maxRecDepth 20000 in
theorem ggX6_would_X6_tellWeigher : GoodIn wsX6_would wsX6_tellWeigher := goodIn_r _ [37, 3, 2, 38, 21, 16, 22, 23, 24, 20, 25, 15, 17, 18, 19, 39, 40, 41, 42, 43, 44, 45, 46, 7, 47, 48, 49, 50, 51, 85, 86, 87, 88, 89, 90, 91, 92, 93, 94, 95, 96, 97, 98, 99, 100, 101, 102, 103, 104, 105, 106, 107, 108, 109] (by decide +kernel) (by decide +kernel)
set_option maxRecDepth 20000 in
theorem gX6_would_X6_tellWeigher : GoodIn wsX6_would (wsV RX6 147 RX6 yX6_tellWeigher wsX6_tellWeigher) := goodIn_app (goodIn_of _ (by decide +kernel)) ggX6_would_X6_tellWeigher
set_option maxRecDepth 20000 in
theorem ggX6_would_X5_firstHeld : GoodIn wsX6_would wsX5_firstHeld := goodIn_r _ [54, 55, 56, 57, 40, 58, 59, 60, 61, 62, 63, 64, 65, 66, 67, 68, 69, 70, 71, 72, 43, 73, 74, 75, 76, 77, 78, 79, 80, 81, 82, 83, 84, 110, 111, 112, 113, 107, 108, 109] (by decide +kernel) (by decide +kernel)
set_option maxRecDepth 20000 in
theorem gX6_would_X5_firstHeld_n151 : GoodIn wsX6_would (wsX5_firstHeld) := ggX6_would_X5_firstHeld
theorem dX6_would_0 : decode cX6_would 0 = .ok (.aload_n 0, 1) := by decide +kernel
theorem dX6_would_1 : decode cX6_would 1 = .ok (.iload_n 1, 1) := by decide +kernel
theorem dX6_would_2 : decode cX6_would 2 = .ok (.invokevirtual 113, 3) := by decide +kernel
theorem dX6_would_5 : decode cX6_would 5 = .ok (.astore 4, 2) := by decide +kernel
theorem dX6_would_7 : decode cX6_would 7 = .ok (.aload 4, 2) := by decide +kernel
theorem dX6_would_9 : decode cX6_would 9 = .ok (.ifnull 21, 3) := by decide +kernel
theorem dX6_would_12 : decode cX6_would 12 = .ok (.aload_n 0, 1) := by decide +kernel
theorem dX6_would_13 : decode cX6_would 13 = .ok (.iload_n 2, 1) := by decide +kernel
theorem dX6_would_14 : decode cX6_would 14 = .ok (.invokevirtual 135, 3) := by decide +kernel
theorem dX6_would_17 : decode cX6_would 17 = .ok (.ifCond .eq 13, 3) := by decide +kernel
theorem dX6_would_20 : decode cX6_would 20 = .ok (.iload_n 3, 1) := by decide +kernel
theorem dX6_would_21 : decode cX6_would 21 = .ok (.ifCond .lt 9, 3) := by decide +kernel
theorem dX6_would_24 : decode cX6_would 24 = .ok (.iload_n 3, 1) := by decide +kernel
theorem dX6_would_25 : decode cX6_would 25 = .ok (.ldc 138, 2) := by decide +kernel
theorem dX6_would_27 : decode cX6_would 27 = .ok (.if_icmp .le 5, 3) := by decide +kernel
theorem dX6_would_30 : decode cX6_would 30 = .ok (.iconst (-1), 1) := by decide +kernel
theorem dX6_would_31 : decode cX6_would 31 = .ok (.ireturn, 1) := by decide +kernel
theorem dX6_would_32 : decode cX6_would 32 = .ok (.aload_n 0, 1) := by decide +kernel
theorem dX6_would_33 : decode cX6_would 33 = .ok (.iload_n 2, 1) := by decide +kernel
theorem dX6_would_34 : decode cX6_would 34 = .ok (.aload_n 0, 1) := by decide +kernel
theorem dX6_would_35 : decode cX6_would 35 = .ok (.aload_n 0, 1) := by decide +kernel
theorem dX6_would_36 : decode cX6_would 36 = .ok (.getfield 65, 3) := by decide +kernel
theorem dX6_would_39 : decode cX6_would 39 = .ok (.iload_n 2, 1) := by decide +kernel
theorem dX6_would_40 : decode cX6_would 40 = .ok (.iconst 0, 1) := by decide +kernel
theorem dX6_would_41 : decode cX6_would 41 = .ok (.invokevirtual 139, 3) := by decide +kernel
theorem dX6_would_44 : decode cX6_would 44 = .ok (.invokevirtual 143, 3) := by decide +kernel
theorem dX6_would_47 : decode cX6_would 47 = .ok (.iload_n 3, 1) := by decide +kernel
theorem dX6_would_48 : decode cX6_would 48 = .ok (.i2l, 1) := by decide +kernel
theorem dX6_would_49 : decode cX6_would 49 = .ok (.lconst 0, 1) := by decide +kernel
theorem dX6_would_50 : decode cX6_would 50 = .ok (.invokevirtual 147, 3) := by decide +kernel
theorem dX6_would_53 : decode cX6_would 53 = .ok (.aload_n 0, 1) := by decide +kernel
theorem dX6_would_54 : decode cX6_would 54 = .ok (.getfield 28, 3) := by decide +kernel
theorem dX6_would_57 : decode cX6_would 57 = .ok (.aload 4, 2) := by decide +kernel
theorem dX6_would_59 : decode cX6_would 59 = .ok (.invokevirtual 151, 3) := by decide +kernel
theorem dX6_would_62 : decode cX6_would 62 = .ok (.istore 5, 2) := by decide +kernel
theorem dX6_would_64 : decode cX6_would 64 = .ok (.iload 5, 2) := by decide +kernel
theorem dX6_would_66 : decode cX6_would 66 = .ok (.ifCond .ge 8, 3) := by decide +kernel
theorem dX6_would_69 : decode cX6_would 69 = .ok (.bipush (-2), 2) := by decide +kernel
theorem dX6_would_71 : decode cX6_would 71 = .ok (.goto 5, 3) := by decide +kernel
theorem dX6_would_74 : decode cX6_would 74 = .ok (.iload 5, 2) := by decide +kernel
theorem dX6_would_76 : decode cX6_would 76 = .ok (.ireturn, 1) := by decide +kernel
theorem dX6_textOf_0 : decode cX6_textOf 0 = .ok (.iload_n 1, 1) := by decide +kernel
theorem dX6_textOf_1 : decode cX6_textOf 1 = .ok (.ifCond .lt 20, 3) := by decide +kernel
theorem dX6_textOf_4 : decode cX6_textOf 4 = .ok (.iload_n 1, 1) := by decide +kernel
theorem dX6_textOf_5 : decode cX6_textOf 5 = .ok (.aload_n 0, 1) := by decide +kernel
theorem dX6_textOf_6 : decode cX6_textOf 6 = .ok (.getfield 99, 3) := by decide +kernel
theorem dX6_textOf_9 : decode cX6_textOf 9 = .ok (.if_icmp .ge 12, 3) := by decide +kernel
theorem dX6_textOf_12 : decode cX6_textOf 12 = .ok (.iload_n 1, 1) := by decide +kernel
theorem dX6_textOf_13 : decode cX6_textOf 13 = .ok (.aload_n 0, 1) := by decide +kernel
theorem dX6_textOf_14 : decode cX6_textOf 14 = .ok (.getfield 34, 3) := by decide +kernel
theorem dX6_textOf_17 : decode cX6_textOf 17 = .ok (.arraylength, 1) := by decide +kernel
theorem dX6_textOf_18 : decode cX6_textOf 18 = .ok (.if_icmp .lt 7, 3) := by decide +kernel
theorem dX6_textOf_21 : decode cX6_textOf 21 = .ok (.aconst_null, 1) := by decide +kernel
theorem dX6_textOf_22 : decode cX6_textOf 22 = .ok (.goto 9, 3) := by decide +kernel
theorem dX6_textOf_25 : decode cX6_textOf 25 = .ok (.aload_n 0, 1) := by decide +kernel
theorem dX6_textOf_26 : decode cX6_textOf 26 = .ok (.getfield 34, 3) := by decide +kernel
theorem dX6_textOf_29 : decode cX6_textOf 29 = .ok (.iload_n 1, 1) := by decide +kernel
theorem dX6_textOf_30 : decode cX6_textOf 30 = .ok (.aaload, 1) := by decide +kernel
theorem dX6_textOf_31 : decode cX6_textOf 31 = .ok (.areturn, 1) := by decide +kernel
set_option maxRecDepth 20000 in
theorem ggX6_textInForce_X2_get : GoodIn wsX6_textInForce wsX2_get := goodIn_r _ [5, 6, 7, 8, 9, 10, 3, 11, 12, 31, 32, 33, 34] (by decide +kernel) (by decide +kernel)
set_option maxRecDepth 20000 in
theorem gX6_textInForce_X2_get_n139 : GoodIn wsX6_textInForce (wsX2_get) := ggX6_textInForce_X2_get
theorem dX6_textInForce_0 : decode cX6_textInForce 0 = .ok (.aload_n 0, 1) := by decide +kernel
theorem dX6_textInForce_1 : decode cX6_textInForce 1 = .ok (.getfield 43, 3) := by decide +kernel
theorem dX6_textInForce_4 : decode cX6_textInForce 4 = .ok (.getfield 155, 3) := by decide +kernel
theorem dX6_textInForce_7 : decode cX6_textInForce 7 = .ok (.iconst 1, 1) := by decide +kernel
theorem dX6_textInForce_8 : decode cX6_textInForce 8 = .ok (.isub, 1) := by decide +kernel
theorem dX6_textInForce_9 : decode cX6_textInForce 9 = .ok (.istore_n 2, 1) := by decide +kernel
theorem dX6_textInForce_10 : decode cX6_textInForce 10 = .ok (.iload_n 2, 1) := by decide +kernel
theorem dX6_textInForce_11 : decode cX6_textInForce 11 = .ok (.ifCond .lt 32, 3) := by decide +kernel
theorem dX6_textInForce_14 : decode cX6_textInForce 14 = .ok (.aload_n 0, 1) := by decide +kernel
theorem dX6_textInForce_15 : decode cX6_textInForce 15 = .ok (.getfield 43, 3) := by decide +kernel
theorem dX6_textInForce_18 : decode cX6_textInForce 18 = .ok (.iload_n 2, 1) := by decide +kernel
theorem dX6_textInForce_19 : decode cX6_textInForce 19 = .ok (.iconst 1, 1) := by decide +kernel
theorem dX6_textInForce_20 : decode cX6_textInForce 20 = .ok (.invokevirtual 139, 3) := by decide +kernel
theorem dX6_textInForce_23 : decode cX6_textInForce 23 = .ok (.iload_n 1, 1) := by decide +kernel
theorem dX6_textInForce_24 : decode cX6_textInForce 24 = .ok (.if_icmp .gt 13, 3) := by decide +kernel
theorem dX6_textInForce_27 : decode cX6_textInForce 27 = .ok (.aload_n 0, 1) := by decide +kernel
theorem dX6_textInForce_28 : decode cX6_textInForce 28 = .ok (.getfield 43, 3) := by decide +kernel
theorem dX6_textInForce_31 : decode cX6_textInForce 31 = .ok (.iload_n 2, 1) := by decide +kernel
theorem dX6_textInForce_32 : decode cX6_textInForce 32 = .ok (.iconst 0, 1) := by decide +kernel
theorem dX6_textInForce_33 : decode cX6_textInForce 33 = .ok (.invokevirtual 139, 3) := by decide +kernel
theorem dX6_textInForce_36 : decode cX6_textInForce 36 = .ok (.ireturn, 1) := by decide +kernel
theorem dX6_textInForce_37 : decode cX6_textInForce 37 = .ok (.iinc 2 (-1), 3) := by decide +kernel
theorem dX6_textInForce_40 : decode cX6_textInForce 40 = .ok (.goto (-30), 3) := by decide +kernel
theorem dX6_textInForce_43 : decode cX6_textInForce 43 = .ok (.iconst (-1), 1) := by decide +kernel
theorem dX6_textInForce_44 : decode cX6_textInForce 44 = .ok (.ireturn, 1) := by decide +kernel
set_option maxRecDepth 20000 in
theorem ggX6_tellWeigher_X2_get : GoodIn wsX6_tellWeigher wsX2_get := goodIn_r _ [7, 8, 9, 10, 11, 12, 5, 13, 14, 47, 48, 49, 50] (by decide +kernel) (by decide +kernel)
set_option maxRecDepth 20000 in
theorem gX6_tellWeigher_X2_get_n139 : GoodIn wsX6_tellWeigher (wsX2_get) := ggX6_tellWeigher_X2_get
set_option maxRecDepth 20000 in
theorem ggX6_tellWeigher_X5_tell : GoodIn wsX6_tellWeigher wsX5_tell := goodIn_r _ [18, 19, 51, 52, 53] (by decide +kernel) (by decide +kernel)
set_option maxRecDepth 20000 in
theorem gX6_tellWeigher_X5_tell_n158 : GoodIn wsX6_tellWeigher (wsX5_tell) := ggX6_tellWeigher_X5_tell
set_option maxRecDepth 20000 in
theorem ggX6_tellWeigher_X6_isHeld : GoodIn wsX6_tellWeigher wsX6_isHeld := goodIn_r _ [24, 25, 26, 27, 23, 28, 29, 30, 31, 32, 33, 34, 35, 36, 37, 38, 39, 40, 41, 42, 43, 44, 45, 46] (by decide +kernel) (by decide +kernel)
set_option maxRecDepth 20000 in
theorem gX6_tellWeigher_X6_isHeld : GoodIn wsX6_tellWeigher (wsV RX6 162 RX6 yX6_isHeld wsX6_isHeld) := goodIn_app (goodIn_of _ (by decide +kernel)) ggX6_tellWeigher_X6_isHeld
theorem dX6_tellWeigher_0 : decode cX6_tellWeigher 0 = .ok (.aload_n 0, 1) := by decide +kernel
theorem dX6_tellWeigher_1 : decode cX6_tellWeigher 1 = .ok (.getfield 28, 3) := by decide +kernel
theorem dX6_tellWeigher_4 : decode cX6_tellWeigher 4 = .ok (.bipush 11, 2) := by decide +kernel
theorem dX6_tellWeigher_6 : decode cX6_tellWeigher 6 = .ok (.aload_n 0, 1) := by decide +kernel
theorem dX6_tellWeigher_7 : decode cX6_tellWeigher 7 = .ok (.getfield 65, 3) := by decide +kernel
theorem dX6_tellWeigher_10 : decode cX6_tellWeigher 10 = .ok (.iload_n 1, 1) := by decide +kernel
theorem dX6_tellWeigher_11 : decode cX6_tellWeigher 11 = .ok (.iconst 3, 1) := by decide +kernel
theorem dX6_tellWeigher_12 : decode cX6_tellWeigher 12 = .ok (.invokevirtual 139, 3) := by decide +kernel
theorem dX6_tellWeigher_15 : decode cX6_tellWeigher 15 = .ok (.i2l, 1) := by decide +kernel
theorem dX6_tellWeigher_16 : decode cX6_tellWeigher 16 = .ok (.invokevirtual 158, 3) := by decide +kernel
theorem dX6_tellWeigher_19 : decode cX6_tellWeigher 19 = .ok (.aload_n 0, 1) := by decide +kernel
theorem dX6_tellWeigher_20 : decode cX6_tellWeigher 20 = .ok (.getfield 28, 3) := by decide +kernel
theorem dX6_tellWeigher_23 : decode cX6_tellWeigher 23 = .ok (.bipush 12, 2) := by decide +kernel
theorem dX6_tellWeigher_25 : decode cX6_tellWeigher 25 = .ok (.lload_n 2, 1) := by decide +kernel
theorem dX6_tellWeigher_26 : decode cX6_tellWeigher 26 = .ok (.invokevirtual 158, 3) := by decide +kernel
theorem dX6_tellWeigher_29 : decode cX6_tellWeigher 29 = .ok (.aload_n 0, 1) := by decide +kernel
theorem dX6_tellWeigher_30 : decode cX6_tellWeigher 30 = .ok (.getfield 28, 3) := by decide +kernel
theorem dX6_tellWeigher_33 : decode cX6_tellWeigher 33 = .ok (.bipush 13, 2) := by decide +kernel
theorem dX6_tellWeigher_35 : decode cX6_tellWeigher 35 = .ok (.aload_n 0, 1) := by decide +kernel
theorem dX6_tellWeigher_36 : decode cX6_tellWeigher 36 = .ok (.getfield 120, 3) := by decide +kernel
theorem dX6_tellWeigher_39 : decode cX6_tellWeigher 39 = .ok (.aload_n 0, 1) := by decide +kernel
theorem dX6_tellWeigher_40 : decode cX6_tellWeigher 40 = .ok (.getfield 65, 3) := by decide +kernel
theorem dX6_tellWeigher_43 : decode cX6_tellWeigher 43 = .ok (.iload_n 1, 1) := by decide +kernel
theorem dX6_tellWeigher_44 : decode cX6_tellWeigher 44 = .ok (.iconst 4, 1) := by decide +kernel
theorem dX6_tellWeigher_45 : decode cX6_tellWeigher 45 = .ok (.invokevirtual 139, 3) := by decide +kernel
theorem dX6_tellWeigher_48 : decode cX6_tellWeigher 48 = .ok (.isub, 1) := by decide +kernel
theorem dX6_tellWeigher_49 : decode cX6_tellWeigher 49 = .ok (.i2l, 1) := by decide +kernel
theorem dX6_tellWeigher_50 : decode cX6_tellWeigher 50 = .ok (.invokevirtual 158, 3) := by decide +kernel
theorem dX6_tellWeigher_53 : decode cX6_tellWeigher 53 = .ok (.aload_n 0, 1) := by decide +kernel
theorem dX6_tellWeigher_54 : decode cX6_tellWeigher 54 = .ok (.getfield 28, 3) := by decide +kernel
theorem dX6_tellWeigher_57 : decode cX6_tellWeigher 57 = .ok (.bipush 14, 2) := by decide +kernel
theorem dX6_tellWeigher_59 : decode cX6_tellWeigher 59 = .ok (.aload_n 0, 1) := by decide +kernel
theorem dX6_tellWeigher_60 : decode cX6_tellWeigher 60 = .ok (.getfield 65, 3) := by decide +kernel
theorem dX6_tellWeigher_63 : decode cX6_tellWeigher 63 = .ok (.iload_n 1, 1) := by decide +kernel
theorem dX6_tellWeigher_64 : decode cX6_tellWeigher 64 = .ok (.iconst 1, 1) := by decide +kernel
theorem dX6_tellWeigher_65 : decode cX6_tellWeigher 65 = .ok (.invokevirtual 139, 3) := by decide +kernel
theorem dX6_tellWeigher_68 : decode cX6_tellWeigher 68 = .ok (.i2l, 1) := by decide +kernel
theorem dX6_tellWeigher_69 : decode cX6_tellWeigher 69 = .ok (.invokevirtual 158, 3) := by decide +kernel
theorem dX6_tellWeigher_72 : decode cX6_tellWeigher 72 = .ok (.aload_n 0, 1) := by decide +kernel
theorem dX6_tellWeigher_73 : decode cX6_tellWeigher 73 = .ok (.getfield 28, 3) := by decide +kernel
theorem dX6_tellWeigher_76 : decode cX6_tellWeigher 76 = .ok (.bipush 15, 2) := by decide +kernel
theorem dX6_tellWeigher_78 : decode cX6_tellWeigher 78 = .ok (.lload 4, 2) := by decide +kernel
theorem dX6_tellWeigher_80 : decode cX6_tellWeigher 80 = .ok (.invokevirtual 158, 3) := by decide +kernel
theorem dX6_tellWeigher_83 : decode cX6_tellWeigher 83 = .ok (.aload_n 0, 1) := by decide +kernel
theorem dX6_tellWeigher_84 : decode cX6_tellWeigher 84 = .ok (.getfield 28, 3) := by decide +kernel
theorem dX6_tellWeigher_87 : decode cX6_tellWeigher 87 = .ok (.bipush 16, 2) := by decide +kernel
theorem dX6_tellWeigher_89 : decode cX6_tellWeigher 89 = .ok (.aload_n 0, 1) := by decide +kernel
theorem dX6_tellWeigher_90 : decode cX6_tellWeigher 90 = .ok (.getfield 120, 3) := by decide +kernel
theorem dX6_tellWeigher_93 : decode cX6_tellWeigher 93 = .ok (.i2l, 1) := by decide +kernel
theorem dX6_tellWeigher_94 : decode cX6_tellWeigher 94 = .ok (.invokevirtual 158, 3) := by decide +kernel
theorem dX6_tellWeigher_97 : decode cX6_tellWeigher 97 = .ok (.aload_n 0, 1) := by decide +kernel
theorem dX6_tellWeigher_98 : decode cX6_tellWeigher 98 = .ok (.getfield 28, 3) := by decide +kernel
theorem dX6_tellWeigher_101 : decode cX6_tellWeigher 101 = .ok (.bipush 17, 2) := by decide +kernel
theorem dX6_tellWeigher_103 : decode cX6_tellWeigher 103 = .ok (.aload_n 0, 1) := by decide +kernel
theorem dX6_tellWeigher_104 : decode cX6_tellWeigher 104 = .ok (.getfield 120, 3) := by decide +kernel
theorem dX6_tellWeigher_107 : decode cX6_tellWeigher 107 = .ok (.iconst 2, 1) := by decide +kernel
theorem dX6_tellWeigher_108 : decode cX6_tellWeigher 108 = .ok (.idiv, 1) := by decide +kernel
theorem dX6_tellWeigher_109 : decode cX6_tellWeigher 109 = .ok (.i2l, 1) := by decide +kernel
theorem dX6_tellWeigher_110 : decode cX6_tellWeigher 110 = .ok (.invokevirtual 158, 3) := by decide +kernel
theorem dX6_tellWeigher_113 : decode cX6_tellWeigher 113 = .ok (.aload_n 0, 1) := by decide +kernel
theorem dX6_tellWeigher_114 : decode cX6_tellWeigher 114 = .ok (.getfield 28, 3) := by decide +kernel
theorem dX6_tellWeigher_117 : decode cX6_tellWeigher 117 = .ok (.bipush 18, 2) := by decide +kernel
theorem dX6_tellWeigher_119 : decode cX6_tellWeigher 119 = .ok (.aload_n 0, 1) := by decide +kernel
theorem dX6_tellWeigher_120 : decode cX6_tellWeigher 120 = .ok (.aload_n 0, 1) := by decide +kernel
theorem dX6_tellWeigher_121 : decode cX6_tellWeigher 121 = .ok (.getfield 65, 3) := by decide +kernel
theorem dX6_tellWeigher_124 : decode cX6_tellWeigher 124 = .ok (.iload_n 1, 1) := by decide +kernel
theorem dX6_tellWeigher_125 : decode cX6_tellWeigher 125 = .ok (.iconst 0, 1) := by decide +kernel
theorem dX6_tellWeigher_126 : decode cX6_tellWeigher 126 = .ok (.invokevirtual 139, 3) := by decide +kernel
theorem dX6_tellWeigher_129 : decode cX6_tellWeigher 129 = .ok (.invokevirtual 162, 3) := by decide +kernel
theorem dX6_tellWeigher_132 : decode cX6_tellWeigher 132 = .ok (.ifCond .eq 7, 3) := by decide +kernel
theorem dX6_tellWeigher_135 : decode cX6_tellWeigher 135 = .ok (.lconst 1, 1) := by decide +kernel
theorem dX6_tellWeigher_136 : decode cX6_tellWeigher 136 = .ok (.goto 4, 3) := by decide +kernel
theorem dX6_tellWeigher_139 : decode cX6_tellWeigher 139 = .ok (.lconst 0, 1) := by decide +kernel
theorem dX6_tellWeigher_140 : decode cX6_tellWeigher 140 = .ok (.invokevirtual 158, 3) := by decide +kernel
theorem dX6_tellWeigher_143 : decode cX6_tellWeigher 143 = .ok (.aload_n 0, 1) := by decide +kernel
theorem dX6_tellWeigher_144 : decode cX6_tellWeigher 144 = .ok (.getfield 28, 3) := by decide +kernel
theorem dX6_tellWeigher_147 : decode cX6_tellWeigher 147 = .ok (.bipush 19, 2) := by decide +kernel
theorem dX6_tellWeigher_149 : decode cX6_tellWeigher 149 = .ok (.lload 6, 2) := by decide +kernel
theorem dX6_tellWeigher_151 : decode cX6_tellWeigher 151 = .ok (.invokevirtual 158, 3) := by decide +kernel
theorem dX6_tellWeigher_154 : decode cX6_tellWeigher 154 = .ok (.aload_n 0, 1) := by decide +kernel
theorem dX6_tellWeigher_155 : decode cX6_tellWeigher 155 = .ok (.getfield 28, 3) := by decide +kernel
theorem dX6_tellWeigher_158 : decode cX6_tellWeigher 158 = .ok (.bipush 20, 2) := by decide +kernel
theorem dX6_tellWeigher_160 : decode cX6_tellWeigher 160 = .ok (.aload_n 0, 1) := by decide +kernel
theorem dX6_tellWeigher_161 : decode cX6_tellWeigher 161 = .ok (.getfield 65, 3) := by decide +kernel
theorem dX6_tellWeigher_164 : decode cX6_tellWeigher 164 = .ok (.iload_n 1, 1) := by decide +kernel
theorem dX6_tellWeigher_165 : decode cX6_tellWeigher 165 = .ok (.iconst 5, 1) := by decide +kernel
theorem dX6_tellWeigher_166 : decode cX6_tellWeigher 166 = .ok (.invokevirtual 139, 3) := by decide +kernel
theorem dX6_tellWeigher_169 : decode cX6_tellWeigher 169 = .ok (.iconst (-1), 1) := by decide +kernel
theorem dX6_tellWeigher_170 : decode cX6_tellWeigher 170 = .ok (.if_icmp .ne 7, 3) := by decide +kernel
theorem dX6_tellWeigher_173 : decode cX6_tellWeigher 173 = .ok (.lconst 0, 1) := by decide +kernel
theorem dX6_tellWeigher_174 : decode cX6_tellWeigher 174 = .ok (.goto 4, 3) := by decide +kernel
theorem dX6_tellWeigher_177 : decode cX6_tellWeigher 177 = .ok (.lconst 1, 1) := by decide +kernel
theorem dX6_tellWeigher_178 : decode cX6_tellWeigher 178 = .ok (.invokevirtual 158, 3) := by decide +kernel
theorem dX6_tellWeigher_181 : decode cX6_tellWeigher 181 = .ok (.return_, 1) := by decide +kernel
set_option maxRecDepth 20000 in
theorem ggX6_shire_X6_isPerson : GoodIn wsX6_shire wsX6_isPerson := goodIn_r _ [7] (by decide +kernel) (by decide +kernel)
set_option maxRecDepth 20000 in
theorem gX6_shire_X6_isPerson : GoodIn wsX6_shire (va_wsS RX6 166 yX6_isPerson wsX6_isPerson) := goodIn_app (goodIn_of _ (by decide +kernel)) ggX6_shire_X6_isPerson
theorem dX6_shire_0 : decode cX6_shire 0 = .ok (.iload_n 1, 1) := by decide +kernel
theorem dX6_shire_1 : decode cX6_shire 1 = .ok (.ifCond .lt 19, 3) := by decide +kernel
theorem dX6_shire_4 : decode cX6_shire 4 = .ok (.iload_n 1, 1) := by decide +kernel
theorem dX6_shire_5 : decode cX6_shire 5 = .ok (.bipush 8, 2) := by decide +kernel
theorem dX6_shire_7 : decode cX6_shire 7 = .ok (.if_icmp .ge 13, 3) := by decide +kernel
theorem dX6_shire_10 : decode cX6_shire 10 = .ok (.iload_n 2, 1) := by decide +kernel
theorem dX6_shire_11 : decode cX6_shire 11 = .ok (.ifCond .lt 9, 3) := by decide +kernel
theorem dX6_shire_14 : decode cX6_shire 14 = .ok (.iload_n 2, 1) := by decide +kernel
theorem dX6_shire_15 : decode cX6_shire 15 = .ok (.ldc 165, 2) := by decide +kernel
theorem dX6_shire_17 : decode cX6_shire 17 = .ok (.if_icmp .le 5, 3) := by decide +kernel
theorem dX6_shire_20 : decode cX6_shire 20 = .ok (.iconst (-1), 1) := by decide +kernel
theorem dX6_shire_21 : decode cX6_shire 21 = .ok (.ireturn, 1) := by decide +kernel
theorem dX6_shire_22 : decode cX6_shire 22 = .ok (.iload_n 3, 1) := by decide +kernel
theorem dX6_shire_23 : decode cX6_shire 23 = .ok (.iconst (-1), 1) := by decide +kernel
theorem dX6_shire_24 : decode cX6_shire 24 = .ok (.if_icmp .eq 12, 3) := by decide +kernel
theorem dX6_shire_27 : decode cX6_shire 27 = .ok (.iload_n 3, 1) := by decide +kernel
theorem dX6_shire_28 : decode cX6_shire 28 = .ok (.invokestatic 166, 3) := by decide +kernel
theorem dX6_shire_31 : decode cX6_shire 31 = .ok (.ifCond .ne 5, 3) := by decide +kernel
theorem dX6_shire_34 : decode cX6_shire 34 = .ok (.iconst (-1), 1) := by decide +kernel
theorem dX6_shire_35 : decode cX6_shire 35 = .ok (.ireturn, 1) := by decide +kernel
theorem dX6_shire_36 : decode cX6_shire 36 = .ok (.aload_n 0, 1) := by decide +kernel
theorem dX6_shire_37 : decode cX6_shire 37 = .ok (.getfield 59, 3) := by decide +kernel
theorem dX6_shire_40 : decode cX6_shire 40 = .ok (.iload_n 1, 1) := by decide +kernel
theorem dX6_shire_41 : decode cX6_shire 41 = .ok (.iload_n 2, 1) := by decide +kernel
theorem dX6_shire_42 : decode cX6_shire 42 = .ok (.iastore, 1) := by decide +kernel
theorem dX6_shire_43 : decode cX6_shire 43 = .ok (.aload_n 0, 1) := by decide +kernel
theorem dX6_shire_44 : decode cX6_shire 44 = .ok (.getfield 62, 3) := by decide +kernel
theorem dX6_shire_47 : decode cX6_shire 47 = .ok (.iload_n 1, 1) := by decide +kernel
theorem dX6_shire_48 : decode cX6_shire 48 = .ok (.iload_n 3, 1) := by decide +kernel
theorem dX6_shire_49 : decode cX6_shire 49 = .ok (.iastore, 1) := by decide +kernel
theorem dX6_shire_50 : decode cX6_shire 50 = .ok (.iconst 1, 1) := by decide +kernel
theorem dX6_shire_51 : decode cX6_shire 51 = .ok (.ireturn, 1) := by decide +kernel
set_option maxRecDepth 20000 in
theorem ggX6_debt_X6_isPerson : GoodIn wsX6_debt wsX6_isPerson := goodIn_r _ [5] (by decide +kernel) (by decide +kernel)
set_option maxRecDepth 20000 in
theorem gX6_debt_X6_isPerson : GoodIn wsX6_debt (va_wsS RX6 166 yX6_isPerson wsX6_isPerson) := goodIn_app (goodIn_of _ (by decide +kernel)) ggX6_debt_X6_isPerson
set_option maxRecDepth 20000 in
theorem ggX6_debt_X6_isSum : GoodIn wsX6_debt wsX6_isSum := goodIn_r _ [8, 9] (by decide +kernel) (by decide +kernel)
set_option maxRecDepth 20000 in
theorem gX6_debt_X6_isSum : GoodIn wsX6_debt (va_wsS RX6 169 yX6_isSum wsX6_isSum) := goodIn_app (goodIn_of _ (by decide +kernel)) ggX6_debt_X6_isSum
set_option maxRecDepth 20000 in
theorem ggX6_debt_X2_hasRoom : GoodIn wsX6_debt wsX2_hasRoom := goodIn_r _ [13, 14, 15, 71, 72, 73, 74] (by decide +kernel) (by decide +kernel)
set_option maxRecDepth 20000 in
theorem gX6_debt_X2_hasRoom_n172 : GoodIn wsX6_debt (wsX2_hasRoom) := ggX6_debt_X2_hasRoom
set_option maxRecDepth 20000 in
theorem ggX6_debt_X6_addDebt : GoodIn wsX6_debt wsX6_addDebt := goodIn_r _ [19, 1, 20, 21, 11, 22, 23, 14, 24, 25, 26, 10, 12, 13, 15, 27, 28, 29, 30, 31, 32, 33, 34, 35, 36, 37, 38, 39, 40, 41, 42, 43, 44, 45, 46, 47, 48, 49, 50, 51, 52, 53, 54, 55, 56, 57, 58, 59, 60, 61, 62, 63, 64, 65, 66, 67, 68, 69, 70, 71, 72, 73, 74] (by decide +kernel) (by decide +kernel)
set_option maxRecDepth 20000 in
theorem gX6_debt_X6_addDebt : GoodIn wsX6_debt (wsV RX6 173 RX6 yX6_addDebt wsX6_addDebt) := goodIn_app (goodIn_of _ (by decide +kernel)) ggX6_debt_X6_addDebt
theorem dX6_debt_0 : decode cX6_debt 0 = .ok (.iload_n 1, 1) := by decide +kernel
theorem dX6_debt_1 : decode cX6_debt 1 = .ok (.invokestatic 166, 3) := by decide +kernel
theorem dX6_debt_4 : decode cX6_debt 4 = .ok (.ifCond .eq 20, 3) := by decide +kernel
theorem dX6_debt_7 : decode cX6_debt 7 = .ok (.iload_n 2, 1) := by decide +kernel
theorem dX6_debt_8 : decode cX6_debt 8 = .ok (.iconst 1, 1) := by decide +kernel
theorem dX6_debt_9 : decode cX6_debt 9 = .ok (.if_icmp .lt 15, 3) := by decide +kernel
theorem dX6_debt_12 : decode cX6_debt 12 = .ok (.iload_n 2, 1) := by decide +kernel
theorem dX6_debt_13 : decode cX6_debt 13 = .ok (.iconst 3, 1) := by decide +kernel
theorem dX6_debt_14 : decode cX6_debt 14 = .ok (.if_icmp .gt 10, 3) := by decide +kernel
theorem dX6_debt_17 : decode cX6_debt 17 = .ok (.iload_n 3, 1) := by decide +kernel
theorem dX6_debt_18 : decode cX6_debt 18 = .ok (.invokestatic 169, 3) := by decide +kernel
theorem dX6_debt_21 : decode cX6_debt 21 = .ok (.ifCond .ne 5, 3) := by decide +kernel
theorem dX6_debt_24 : decode cX6_debt 24 = .ok (.iconst (-1), 1) := by decide +kernel
theorem dX6_debt_25 : decode cX6_debt 25 = .ok (.ireturn, 1) := by decide +kernel
theorem dX6_debt_26 : decode cX6_debt 26 = .ok (.iload_n 2, 1) := by decide +kernel
theorem dX6_debt_27 : decode cX6_debt 27 = .ok (.iconst 3, 1) := by decide +kernel
theorem dX6_debt_28 : decode cX6_debt 28 = .ok (.if_icmp .ne 25, 3) := by decide +kernel
theorem dX6_debt_31 : decode cX6_debt 31 = .ok (.iload 4, 2) := by decide +kernel
theorem dX6_debt_33 : decode cX6_debt 33 = .ok (.invokestatic 166, 3) := by decide +kernel
theorem dX6_debt_36 : decode cX6_debt 36 = .ok (.ifCond .eq 13, 3) := by decide +kernel
theorem dX6_debt_39 : decode cX6_debt 39 = .ok (.iload 4, 2) := by decide +kernel
theorem dX6_debt_41 : decode cX6_debt 41 = .ok (.iload_n 1, 1) := by decide +kernel
theorem dX6_debt_42 : decode cX6_debt 42 = .ok (.if_icmp .eq 7, 3) := by decide +kernel
theorem dX6_debt_45 : decode cX6_debt 45 = .ok (.iconst 1, 1) := by decide +kernel
theorem dX6_debt_46 : decode cX6_debt 46 = .ok (.goto 18, 3) := by decide +kernel
theorem dX6_debt_49 : decode cX6_debt 49 = .ok (.iconst 0, 1) := by decide +kernel
theorem dX6_debt_50 : decode cX6_debt 50 = .ok (.goto 14, 3) := by decide +kernel
theorem dX6_debt_53 : decode cX6_debt 53 = .ok (.iload 4, 2) := by decide +kernel
theorem dX6_debt_55 : decode cX6_debt 55 = .ok (.iconst (-1), 1) := by decide +kernel
theorem dX6_debt_56 : decode cX6_debt 56 = .ok (.if_icmp .ne 7, 3) := by decide +kernel
theorem dX6_debt_59 : decode cX6_debt 59 = .ok (.iconst 1, 1) := by decide +kernel
theorem dX6_debt_60 : decode cX6_debt 60 = .ok (.goto 4, 3) := by decide +kernel
theorem dX6_debt_63 : decode cX6_debt 63 = .ok (.iconst 0, 1) := by decide +kernel
theorem dX6_debt_64 : decode cX6_debt 64 = .ok (.istore 5, 2) := by decide +kernel
theorem dX6_debt_66 : decode cX6_debt 66 = .ok (.iload 5, 2) := by decide +kernel
theorem dX6_debt_68 : decode cX6_debt 68 = .ok (.ifCond .ne 5, 3) := by decide +kernel
theorem dX6_debt_71 : decode cX6_debt 71 = .ok (.iconst (-1), 1) := by decide +kernel
theorem dX6_debt_72 : decode cX6_debt 72 = .ok (.ireturn, 1) := by decide +kernel
theorem dX6_debt_73 : decode cX6_debt 73 = .ok (.aload_n 0, 1) := by decide +kernel
theorem dX6_debt_74 : decode cX6_debt 74 = .ok (.getfield 65, 3) := by decide +kernel
theorem dX6_debt_77 : decode cX6_debt 77 = .ok (.iconst 1, 1) := by decide +kernel
theorem dX6_debt_78 : decode cX6_debt 78 = .ok (.invokevirtual 172, 3) := by decide +kernel
theorem dX6_debt_81 : decode cX6_debt 81 = .ok (.ifCond .eq 15, 3) := by decide +kernel
theorem dX6_debt_84 : decode cX6_debt 84 = .ok (.aload_n 0, 1) := by decide +kernel
theorem dX6_debt_85 : decode cX6_debt 85 = .ok (.iload_n 1, 1) := by decide +kernel
theorem dX6_debt_86 : decode cX6_debt 86 = .ok (.iload_n 2, 1) := by decide +kernel
theorem dX6_debt_87 : decode cX6_debt 87 = .ok (.iload_n 3, 1) := by decide +kernel
theorem dX6_debt_88 : decode cX6_debt 88 = .ok (.iload 4, 2) := by decide +kernel
theorem dX6_debt_90 : decode cX6_debt 90 = .ok (.invokevirtual 173, 3) := by decide +kernel
theorem dX6_debt_93 : decode cX6_debt 93 = .ok (.goto 5, 3) := by decide +kernel
theorem dX6_debt_96 : decode cX6_debt 96 = .ok (.bipush (-3), 2) := by decide +kernel
theorem dX6_debt_98 : decode cX6_debt 98 = .ok (.ireturn, 1) := by decide +kernel
set_option maxRecDepth 20000 in
theorem ggX6_term_X6_shiresOwing : GoodIn wsX6_term wsX6_shiresOwing := goodIn_r _ [7, 8, 9, 56, 57, 58, 59, 60, 61, 62, 63, 64, 65, 66, 67, 68, 69, 70, 71, 72, 73] (by decide +kernel) (by decide +kernel)
set_option maxRecDepth 20000 in
theorem gX6_term_X6_shiresOwing : GoodIn wsX6_term (wsV RX6 177 RX6 yX6_shiresOwing wsX6_shiresOwing) := goodIn_app (goodIn_of _ (by decide +kernel)) ggX6_term_X6_shiresOwing
set_option maxRecDepth 20000 in
theorem ggX6_term_X2_hasRoom : GoodIn wsX6_term wsX2_hasRoom := goodIn_r _ [13, 14, 15, 74, 75, 76, 77] (by decide +kernel) (by decide +kernel)
set_option maxRecDepth 20000 in
theorem gX6_term_X2_hasRoom_n172 : GoodIn wsX6_term (wsX2_hasRoom) := ggX6_term_X2_hasRoom
set_option maxRecDepth 20000 in
theorem ggX6_term_X6_addFarmDebts : GoodIn wsX6_term wsX6_addFarmDebts := goodIn_r _ [19, 8, 9, 20, 21, 22, 6, 23, 2, 1, 24, 11, 25, 26, 14, 27, 28, 29, 10, 12, 13, 15, 30, 31, 32, 33, 34, 35, 36, 37, 38, 39, 40, 41, 42, 43, 44, 45, 46, 47, 48, 49, 50, 51, 52, 53, 54, 55, 56, 57, 58, 59, 60, 61, 62, 63, 64, 65, 66, 67, 68, 69, 70, 71, 72, 73, 74, 75, 76, 77] (by decide +kernel) (by decide +kernel)
set_option maxRecDepth 20000 in
theorem gX6_term_X6_addFarmDebts : GoodIn wsX6_term (wsV RX6 180 RX6 yX6_addFarmDebts wsX6_addFarmDebts) := goodIn_app (goodIn_of _ (by decide +kernel)) ggX6_term_X6_addFarmDebts
theorem dX6_term_0 : decode cX6_term 0 = .ok (.aload_n 0, 1) := by decide +kernel
theorem dX6_term_1 : decode cX6_term 1 = .ok (.getfield 120, 3) := by decide +kernel
theorem dX6_term_4 : decode cX6_term 4 = .ok (.sipush 1000, 3) := by decide +kernel
theorem dX6_term_7 : decode cX6_term 7 = .ok (.if_icmp .lt 5, 3) := by decide +kernel
theorem dX6_term_10 : decode cX6_term 10 = .ok (.iconst (-1), 1) := by decide +kernel
theorem dX6_term_11 : decode cX6_term 11 = .ok (.ireturn, 1) := by decide +kernel
theorem dX6_term_12 : decode cX6_term 12 = .ok (.aload_n 0, 1) := by decide +kernel
theorem dX6_term_13 : decode cX6_term 13 = .ok (.getfield 120, 3) := by decide +kernel
theorem dX6_term_16 : decode cX6_term 16 = .ok (.iconst 1, 1) := by decide +kernel
theorem dX6_term_17 : decode cX6_term 17 = .ok (.iadd, 1) := by decide +kernel
theorem dX6_term_18 : decode cX6_term 18 = .ok (.iconst 2, 1) := by decide +kernel
theorem dX6_term_19 : decode cX6_term 19 = .ok (.irem, 1) := by decide +kernel
theorem dX6_term_20 : decode cX6_term 20 = .ok (.ifCond .ne 7, 3) := by decide +kernel
theorem dX6_term_23 : decode cX6_term 23 = .ok (.iconst 1, 1) := by decide +kernel
theorem dX6_term_24 : decode cX6_term 24 = .ok (.goto 4, 3) := by decide +kernel
theorem dX6_term_27 : decode cX6_term 27 = .ok (.iconst 0, 1) := by decide +kernel
theorem dX6_term_28 : decode cX6_term 28 = .ok (.istore_n 1, 1) := by decide +kernel
theorem dX6_term_29 : decode cX6_term 29 = .ok (.iload_n 1, 1) := by decide +kernel
theorem dX6_term_30 : decode cX6_term 30 = .ok (.ifCond .eq 20, 3) := by decide +kernel
theorem dX6_term_33 : decode cX6_term 33 = .ok (.aload_n 0, 1) := by decide +kernel
theorem dX6_term_34 : decode cX6_term 34 = .ok (.getfield 65, 3) := by decide +kernel
theorem dX6_term_37 : decode cX6_term 37 = .ok (.aload_n 0, 1) := by decide +kernel
theorem dX6_term_38 : decode cX6_term 38 = .ok (.invokevirtual 177, 3) := by decide +kernel
theorem dX6_term_41 : decode cX6_term 41 = .ok (.invokevirtual 172, 3) := by decide +kernel
theorem dX6_term_44 : decode cX6_term 44 = .ok (.ifCond .ne 6, 3) := by decide +kernel
theorem dX6_term_47 : decode cX6_term 47 = .ok (.bipush (-3), 2) := by decide +kernel
theorem dX6_term_49 : decode cX6_term 49 = .ok (.ireturn, 1) := by decide +kernel
theorem dX6_term_50 : decode cX6_term 50 = .ok (.aload_n 0, 1) := by decide +kernel
theorem dX6_term_51 : decode cX6_term 51 = .ok (.dup, 1) := by decide +kernel
theorem dX6_term_52 : decode cX6_term 52 = .ok (.getfield 120, 3) := by decide +kernel
theorem dX6_term_55 : decode cX6_term 55 = .ok (.iconst 1, 1) := by decide +kernel
theorem dX6_term_56 : decode cX6_term 56 = .ok (.iadd, 1) := by decide +kernel
theorem dX6_term_57 : decode cX6_term 57 = .ok (.putfield 120, 3) := by decide +kernel
theorem dX6_term_60 : decode cX6_term 60 = .ok (.iload_n 1, 1) := by decide +kernel
theorem dX6_term_61 : decode cX6_term 61 = .ok (.ifCond .eq 7, 3) := by decide +kernel
theorem dX6_term_64 : decode cX6_term 64 = .ok (.aload_n 0, 1) := by decide +kernel
theorem dX6_term_65 : decode cX6_term 65 = .ok (.invokevirtual 180, 3) := by decide +kernel
theorem dX6_term_68 : decode cX6_term 68 = .ok (.aload_n 0, 1) := by decide +kernel
theorem dX6_term_69 : decode cX6_term 69 = .ok (.getfield 120, 3) := by decide +kernel
theorem dX6_term_72 : decode cX6_term 72 = .ok (.ireturn, 1) := by decide +kernel
set_option maxRecDepth 20000 in
theorem ggX6_come_X6_isPerson : GoodIn wsX6_come wsX6_isPerson := goodIn_r _ [11] (by decide +kernel) (by decide +kernel)
set_option maxRecDepth 20000 in
theorem gX6_come_X6_isPerson : GoodIn wsX6_come (va_wsS RX6 166 yX6_isPerson wsX6_isPerson) := goodIn_app (goodIn_of _ (by decide +kernel)) ggX6_come_X6_isPerson
set_option maxRecDepth 20000 in
theorem ggX6_come_X6_owedDebtsOf : GoodIn wsX6_come wsX6_owedDebtsOf := goodIn_r _ [15, 16, 17, 18, 19, 10, 20, 21, 22, 23, 24, 25, 26, 27, 28, 29, 30, 31, 32, 33, 34, 35, 165, 166, 167, 168, 169, 170, 171, 172, 173, 174, 175, 176, 177, 178, 179, 180, 181, 182, 183, 184, 185, 186] (by decide +kernel) (by decide +kernel)
set_option maxRecDepth 20000 in
theorem gX6_come_X6_owedDebtsOf : GoodIn wsX6_come (wsV RX6 184 RX6 yX6_owedDebtsOf wsX6_owedDebtsOf) := goodIn_app (goodIn_of _ (by decide +kernel)) ggX6_come_X6_owedDebtsOf
set_option maxRecDepth 20000 in
theorem ggX6_come_X2_hasRoom : GoodIn wsX6_come wsX2_hasRoom := goodIn_r _ [38, 29, 39, 183, 184, 185, 186] (by decide +kernel) (by decide +kernel)
set_option maxRecDepth 20000 in
theorem gX6_come_X2_hasRoom_n172 : GoodIn wsX6_come (wsX2_hasRoom) := ggX6_come_X2_hasRoom
set_option maxRecDepth 20000 in
theorem ggX6_come_X6_askAll : GoodIn wsX6_come wsX6_askAll := goodIn_r _ [43, 3, 16, 44, 45, 46, 10, 47, 48, 31, 26, 32, 33, 34, 30, 35, 25, 27, 28, 29, 49, 50, 51, 52, 17, 18, 19, 20, 21, 22, 23, 24, 53, 54, 55, 56, 57, 58, 59, 60, 61, 62, 63, 64, 65, 66, 67, 8, 9, 11, 68, 69, 70, 71, 72, 73, 74, 75, 4, 76, 77, 78, 79, 80, 81, 82, 83, 84, 85, 86, 87, 88, 89, 90, 91, 92, 93, 94, 95, 96, 97, 98, 99, 100, 101, 102, 103, 104, 105, 106, 107, 108, 109, 110, 111, 112, 113, 114, 115, 116, 117, 118, 119, 120, 121, 122, 123, 124, 125, 126, 5, 127, 128, 129, 130, 36, 37, 38, 39, 131, 132, 133, 134, 135, 136, 137, 138, 139, 140, 141, 142, 143, 144, 145, 146, 147, 148, 149, 150, 151, 152, 153, 154, 155, 156, 157, 158, 159, 160, 161, 162, 163, 164, 165, 166, 167, 168, 169, 170, 171, 172, 173, 174, 175, 176, 177, 178, 179, 180, 181, 182, 183, 184, 185, 186, 187, 188, 189, 190, 191, 192, 193] (by decide +kernel) (by decide +kernel)
set_option maxRecDepth 20000 in
theorem gX6_come_X6_askAll : GoodIn wsX6_come (wsV RX6 191 RX6 yX6_askAll wsX6_askAll) := goodIn_app (goodIn_of _ (by decide +kernel)) ggX6_come_X6_askAll
theorem dX6_come_0 : decode cX6_come 0 = .ok (.iload_n 1, 1) := by decide +kernel
theorem dX6_come_1 : decode cX6_come 1 = .ok (.invokestatic 166, 3) := by decide +kernel
theorem dX6_come_4 : decode cX6_come 4 = .ok (.ifCond .eq 13, 3) := by decide +kernel
theorem dX6_come_7 : decode cX6_come 7 = .ok (.iload_n 2, 1) := by decide +kernel
theorem dX6_come_8 : decode cX6_come 8 = .ok (.ifCond .lt 9, 3) := by decide +kernel
theorem dX6_come_11 : decode cX6_come 11 = .ok (.iload_n 2, 1) := by decide +kernel
theorem dX6_come_12 : decode cX6_come 12 = .ok (.ldc 183, 2) := by decide +kernel
theorem dX6_come_14 : decode cX6_come 14 = .ok (.if_icmp .le 5, 3) := by decide +kernel
theorem dX6_come_17 : decode cX6_come 17 = .ok (.iconst (-1), 1) := by decide +kernel
theorem dX6_come_18 : decode cX6_come 18 = .ok (.ireturn, 1) := by decide +kernel
theorem dX6_come_19 : decode cX6_come 19 = .ok (.aload_n 0, 1) := by decide +kernel
theorem dX6_come_20 : decode cX6_come 20 = .ok (.getfield 55, 3) := by decide +kernel
theorem dX6_come_23 : decode cX6_come 23 = .ok (.iload_n 1, 1) := by decide +kernel
theorem dX6_come_24 : decode cX6_come 24 = .ok (.iaload, 1) := by decide +kernel
theorem dX6_come_25 : decode cX6_come 25 = .ok (.aload_n 0, 1) := by decide +kernel
theorem dX6_come_26 : decode cX6_come 26 = .ok (.getfield 120, 3) := by decide +kernel
theorem dX6_come_29 : decode cX6_come 29 = .ok (.if_icmp .ne 6, 3) := by decide +kernel
theorem dX6_come_32 : decode cX6_come 32 = .ok (.bipush (-2), 2) := by decide +kernel
theorem dX6_come_34 : decode cX6_come 34 = .ok (.ireturn, 1) := by decide +kernel
theorem dX6_come_35 : decode cX6_come 35 = .ok (.aload_n 0, 1) := by decide +kernel
theorem dX6_come_36 : decode cX6_come 36 = .ok (.iload_n 1, 1) := by decide +kernel
theorem dX6_come_37 : decode cX6_come 37 = .ok (.invokevirtual 184, 3) := by decide +kernel
theorem dX6_come_40 : decode cX6_come 40 = .ok (.istore_n 3, 1) := by decide +kernel
theorem dX6_come_41 : decode cX6_come 41 = .ok (.aload_n 0, 1) := by decide +kernel
theorem dX6_come_42 : decode cX6_come 42 = .ok (.getfield 68, 3) := by decide +kernel
theorem dX6_come_45 : decode cX6_come 45 = .ok (.iload_n 3, 1) := by decide +kernel
theorem dX6_come_46 : decode cX6_come 46 = .ok (.invokevirtual 172, 3) := by decide +kernel
theorem dX6_come_49 : decode cX6_come 49 = .ok (.ifCond .eq 14, 3) := by decide +kernel
theorem dX6_come_52 : decode cX6_come 52 = .ok (.aload_n 0, 1) := by decide +kernel
theorem dX6_come_53 : decode cX6_come 53 = .ok (.getfield 71, 3) := by decide +kernel
theorem dX6_come_56 : decode cX6_come 56 = .ok (.iload_n 3, 1) := by decide +kernel
theorem dX6_come_57 : decode cX6_come 57 = .ok (.invokevirtual 172, 3) := by decide +kernel
theorem dX6_come_60 : decode cX6_come 60 = .ok (.ifCond .ne 6, 3) := by decide +kernel
theorem dX6_come_63 : decode cX6_come 63 = .ok (.bipush (-3), 2) := by decide +kernel
theorem dX6_come_65 : decode cX6_come 65 = .ok (.ireturn, 1) := by decide +kernel
theorem dX6_come_66 : decode cX6_come 66 = .ok (.aload_n 0, 1) := by decide +kernel
theorem dX6_come_67 : decode cX6_come 67 = .ok (.getfield 55, 3) := by decide +kernel
theorem dX6_come_70 : decode cX6_come 70 = .ok (.iload_n 1, 1) := by decide +kernel
theorem dX6_come_71 : decode cX6_come 71 = .ok (.aload_n 0, 1) := by decide +kernel
theorem dX6_come_72 : decode cX6_come 72 = .ok (.getfield 120, 3) := by decide +kernel
theorem dX6_come_75 : decode cX6_come 75 = .ok (.iastore, 1) := by decide +kernel
theorem dX6_come_76 : decode cX6_come 76 = .ok (.aload_n 0, 1) := by decide +kernel
theorem dX6_come_77 : decode cX6_come 77 = .ok (.dup, 1) := by decide +kernel
theorem dX6_come_78 : decode cX6_come 78 = .ok (.getfield 187, 3) := by decide +kernel
theorem dX6_come_81 : decode cX6_come 81 = .ok (.iload_n 2, 1) := by decide +kernel
theorem dX6_come_82 : decode cX6_come 82 = .ok (.i2l, 1) := by decide +kernel
theorem dX6_come_83 : decode cX6_come 83 = .ok (.ladd, 1) := by decide +kernel
theorem dX6_come_84 : decode cX6_come 84 = .ok (.putfield 187, 3) := by decide +kernel
theorem dX6_come_87 : decode cX6_come 87 = .ok (.aload_n 0, 1) := by decide +kernel
theorem dX6_come_88 : decode cX6_come 88 = .ok (.getfield 47, 3) := by decide +kernel
theorem dX6_come_91 : decode cX6_come 91 = .ok (.iload_n 1, 1) := by decide +kernel
theorem dX6_come_92 : decode cX6_come 92 = .ok (.laload, 1) := by decide +kernel
theorem dX6_come_93 : decode cX6_come 93 = .ok (.iload_n 2, 1) := by decide +kernel
theorem dX6_come_94 : decode cX6_come 94 = .ok (.i2l, 1) := by decide +kernel
theorem dX6_come_95 : decode cX6_come 95 = .ok (.ladd, 1) := by decide +kernel
theorem dX6_come_96 : decode cX6_come 96 = .ok (.lstore 4, 2) := by decide +kernel
theorem dX6_come_98 : decode cX6_come 98 = .ok (.aload_n 0, 1) := by decide +kernel
theorem dX6_come_99 : decode cX6_come 99 = .ok (.getfield 47, 3) := by decide +kernel
theorem dX6_come_102 : decode cX6_come 102 = .ok (.iload_n 1, 1) := by decide +kernel
theorem dX6_come_103 : decode cX6_come 103 = .ok (.lload 4, 2) := by decide +kernel
theorem dX6_come_105 : decode cX6_come 105 = .ok (.aload_n 0, 1) := by decide +kernel
theorem dX6_come_106 : decode cX6_come 106 = .ok (.iload_n 1, 1) := by decide +kernel
theorem dX6_come_107 : decode cX6_come 107 = .ok (.lload 4, 2) := by decide +kernel
theorem dX6_come_109 : decode cX6_come 109 = .ok (.invokevirtual 191, 3) := by decide +kernel
theorem dX6_come_112 : decode cX6_come 112 = .ok (.lsub, 1) := by decide +kernel
theorem dX6_come_113 : decode cX6_come 113 = .ok (.lastore, 1) := by decide +kernel
theorem dX6_come_114 : decode cX6_come 114 = .ok (.iload_n 3, 1) := by decide +kernel
theorem dX6_come_115 : decode cX6_come 115 = .ok (.ireturn, 1) := by decide +kernel
set_option maxRecDepth 20000 in
theorem ggX6_free_X6_isPerson : GoodIn wsX6_free wsX6_isPerson := goodIn_r _ [5] (by decide +kernel) (by decide +kernel)
set_option maxRecDepth 20000 in
theorem gX6_free_X6_isPerson : GoodIn wsX6_free (va_wsS RX6 166 yX6_isPerson wsX6_isPerson) := goodIn_app (goodIn_of _ (by decide +kernel)) ggX6_free_X6_isPerson
theorem dX6_free_0 : decode cX6_free 0 = .ok (.iload_n 1, 1) := by decide +kernel
theorem dX6_free_1 : decode cX6_free 1 = .ok (.invokestatic 166, 3) := by decide +kernel
theorem dX6_free_4 : decode cX6_free 4 = .ok (.ifCond .ne 5, 3) := by decide +kernel
theorem dX6_free_7 : decode cX6_free 7 = .ok (.iconst (-1), 1) := by decide +kernel
theorem dX6_free_8 : decode cX6_free 8 = .ok (.ireturn, 1) := by decide +kernel
theorem dX6_free_9 : decode cX6_free 9 = .ok (.aload_n 0, 1) := by decide +kernel
theorem dX6_free_10 : decode cX6_free 10 = .ok (.getfield 51, 3) := by decide +kernel
theorem dX6_free_13 : decode cX6_free 13 = .ok (.iload_n 1, 1) := by decide +kernel
theorem dX6_free_14 : decode cX6_free 14 = .ok (.baload, 1) := by decide +kernel
theorem dX6_free_15 : decode cX6_free 15 = .ok (.ifCond .eq 7, 3) := by decide +kernel
theorem dX6_free_18 : decode cX6_free 18 = .ok (.iconst 1, 1) := by decide +kernel
theorem dX6_free_19 : decode cX6_free 19 = .ok (.goto 4, 3) := by decide +kernel
theorem dX6_free_22 : decode cX6_free 22 = .ok (.iconst 0, 1) := by decide +kernel
theorem dX6_free_23 : decode cX6_free 23 = .ok (.istore_n 2, 1) := by decide +kernel
theorem dX6_free_24 : decode cX6_free 24 = .ok (.aload_n 0, 1) := by decide +kernel
theorem dX6_free_25 : decode cX6_free 25 = .ok (.getfield 51, 3) := by decide +kernel
theorem dX6_free_28 : decode cX6_free 28 = .ok (.iload_n 1, 1) := by decide +kernel
theorem dX6_free_29 : decode cX6_free 29 = .ok (.iconst 0, 1) := by decide +kernel
theorem dX6_free_30 : decode cX6_free 30 = .ok (.bastore, 1) := by decide +kernel
theorem dX6_free_31 : decode cX6_free 31 = .ok (.iload_n 2, 1) := by decide +kernel
theorem dX6_free_32 : decode cX6_free 32 = .ok (.ireturn, 1) := by decide +kernel
set_option maxRecDepth 20000 in
theorem ggX6_heir_X6_isPerson : GoodIn wsX6_heir wsX6_isPerson := goodIn_r _ [6] (by decide +kernel) (by decide +kernel)
set_option maxRecDepth 20000 in
theorem gX6_heir_X6_isPerson : GoodIn wsX6_heir (va_wsS RX6 166 yX6_isPerson wsX6_isPerson) := goodIn_app (goodIn_of _ (by decide +kernel)) ggX6_heir_X6_isPerson
set_option maxRecDepth 20000 in
theorem ggX6_heir_X6_isOwedBy : GoodIn wsX6_heir wsX6_isOwedBy := goodIn_r _ [10, 1, 11, 12, 13, 5, 14, 15, 16, 17, 18, 19, 20, 21, 22, 23, 24, 25, 33, 34, 35, 36, 37, 38, 39, 40, 41, 42, 43, 44, 45, 46, 47, 48, 49, 50, 51, 52, 53, 54] (by decide +kernel) (by decide +kernel)
set_option maxRecDepth 20000 in
theorem gX6_heir_X6_isOwedBy : GoodIn wsX6_heir (wsV RX6 195 RX6 yX6_isOwedBy wsX6_isOwedBy) := goodIn_app (goodIn_of _ (by decide +kernel)) ggX6_heir_X6_isOwedBy
set_option maxRecDepth 20000 in
theorem ggX6_heir_X6_moveDebt : GoodIn wsX6_heir wsX6_moveDebt := goodIn_r _ [29, 1, 30, 16, 31, 32, 24, 20, 25, 15, 17, 18, 19, 21, 22, 23, 33, 34, 35, 36, 37, 38, 39, 40, 41, 42, 43, 44, 45, 46, 47, 48, 49, 50, 51, 52, 53, 54] (by decide +kernel) (by decide +kernel)
set_option maxRecDepth 20000 in
theorem gX6_heir_X6_moveDebt : GoodIn wsX6_heir (wsV RX6 199 RX6 yX6_moveDebt wsX6_moveDebt) := goodIn_app (goodIn_of _ (by decide +kernel)) ggX6_heir_X6_moveDebt
theorem dX6_heir_0 : decode cX6_heir 0 = .ok (.iload_n 1, 1) := by decide +kernel
theorem dX6_heir_1 : decode cX6_heir 1 = .ok (.invokestatic 166, 3) := by decide +kernel
theorem dX6_heir_4 : decode cX6_heir 4 = .ok (.ifCond .eq 15, 3) := by decide +kernel
theorem dX6_heir_7 : decode cX6_heir 7 = .ok (.iload_n 2, 1) := by decide +kernel
theorem dX6_heir_8 : decode cX6_heir 8 = .ok (.invokestatic 166, 3) := by decide +kernel
theorem dX6_heir_11 : decode cX6_heir 11 = .ok (.ifCond .eq 8, 3) := by decide +kernel
theorem dX6_heir_14 : decode cX6_heir 14 = .ok (.iload_n 1, 1) := by decide +kernel
theorem dX6_heir_15 : decode cX6_heir 15 = .ok (.iload_n 2, 1) := by decide +kernel
theorem dX6_heir_16 : decode cX6_heir 16 = .ok (.if_icmp .ne 5, 3) := by decide +kernel
theorem dX6_heir_19 : decode cX6_heir 19 = .ok (.iconst (-1), 1) := by decide +kernel
theorem dX6_heir_20 : decode cX6_heir 20 = .ok (.ireturn, 1) := by decide +kernel
theorem dX6_heir_21 : decode cX6_heir 21 = .ok (.iconst 0, 1) := by decide +kernel
theorem dX6_heir_22 : decode cX6_heir 22 = .ok (.istore_n 3, 1) := by decide +kernel
theorem dX6_heir_23 : decode cX6_heir 23 = .ok (.iconst 0, 1) := by decide +kernel
theorem dX6_heir_24 : decode cX6_heir 24 = .ok (.istore 4, 2) := by decide +kernel
theorem dX6_heir_26 : decode cX6_heir 26 = .ok (.iload 4, 2) := by decide +kernel
theorem dX6_heir_28 : decode cX6_heir 28 = .ok (.aload_n 0, 1) := by decide +kernel
theorem dX6_heir_29 : decode cX6_heir 29 = .ok (.getfield 65, 3) := by decide +kernel
theorem dX6_heir_32 : decode cX6_heir 32 = .ok (.getfield 155, 3) := by decide +kernel
theorem dX6_heir_35 : decode cX6_heir 35 = .ok (.if_icmp .ge 29, 3) := by decide +kernel
theorem dX6_heir_38 : decode cX6_heir 38 = .ok (.aload_n 0, 1) := by decide +kernel
theorem dX6_heir_39 : decode cX6_heir 39 = .ok (.iload 4, 2) := by decide +kernel
theorem dX6_heir_41 : decode cX6_heir 41 = .ok (.iload_n 1, 1) := by decide +kernel
theorem dX6_heir_42 : decode cX6_heir 42 = .ok (.invokevirtual 195, 3) := by decide +kernel
theorem dX6_heir_45 : decode cX6_heir 45 = .ok (.ifCond .eq 13, 3) := by decide +kernel
theorem dX6_heir_48 : decode cX6_heir 48 = .ok (.aload_n 0, 1) := by decide +kernel
theorem dX6_heir_49 : decode cX6_heir 49 = .ok (.iload 4, 2) := by decide +kernel
theorem dX6_heir_51 : decode cX6_heir 51 = .ok (.iload_n 2, 1) := by decide +kernel
theorem dX6_heir_52 : decode cX6_heir 52 = .ok (.invokevirtual 199, 3) := by decide +kernel
theorem dX6_heir_55 : decode cX6_heir 55 = .ok (.iinc 3 1, 3) := by decide +kernel
theorem dX6_heir_58 : decode cX6_heir 58 = .ok (.iinc 4 1, 3) := by decide +kernel
theorem dX6_heir_61 : decode cX6_heir 61 = .ok (.goto (-35), 3) := by decide +kernel
theorem dX6_heir_64 : decode cX6_heir 64 = .ok (.aload_n 0, 1) := by decide +kernel
theorem dX6_heir_65 : decode cX6_heir 65 = .ok (.getfield 47, 3) := by decide +kernel
theorem dX6_heir_68 : decode cX6_heir 68 = .ok (.iload_n 2, 1) := by decide +kernel
theorem dX6_heir_69 : decode cX6_heir 69 = .ok (.dup2, 1) := by decide +kernel
theorem dX6_heir_70 : decode cX6_heir 70 = .ok (.laload, 1) := by decide +kernel
theorem dX6_heir_71 : decode cX6_heir 71 = .ok (.aload_n 0, 1) := by decide +kernel
theorem dX6_heir_72 : decode cX6_heir 72 = .ok (.getfield 47, 3) := by decide +kernel
theorem dX6_heir_75 : decode cX6_heir 75 = .ok (.iload_n 1, 1) := by decide +kernel
theorem dX6_heir_76 : decode cX6_heir 76 = .ok (.laload, 1) := by decide +kernel
theorem dX6_heir_77 : decode cX6_heir 77 = .ok (.ladd, 1) := by decide +kernel
theorem dX6_heir_78 : decode cX6_heir 78 = .ok (.lastore, 1) := by decide +kernel
theorem dX6_heir_79 : decode cX6_heir 79 = .ok (.aload_n 0, 1) := by decide +kernel
theorem dX6_heir_80 : decode cX6_heir 80 = .ok (.getfield 47, 3) := by decide +kernel
theorem dX6_heir_83 : decode cX6_heir 83 = .ok (.iload_n 1, 1) := by decide +kernel
theorem dX6_heir_84 : decode cX6_heir 84 = .ok (.lconst 0, 1) := by decide +kernel
theorem dX6_heir_85 : decode cX6_heir 85 = .ok (.lastore, 1) := by decide +kernel
theorem dX6_heir_86 : decode cX6_heir 86 = .ok (.iload_n 3, 1) := by decide +kernel
theorem dX6_heir_87 : decode cX6_heir 87 = .ok (.ireturn, 1) := by decide +kernel
set_option maxRecDepth 20000 in
theorem ggX6_about_X2_has : GoodIn wsX6_about wsX2_has := goodIn_r _ [5, 6, 7, 31, 32, 33, 34] (by decide +kernel) (by decide +kernel)
set_option maxRecDepth 20000 in
theorem gX6_about_X2_has_n202 : GoodIn wsX6_about (wsX2_has) := ggX6_about_X2_has
set_option maxRecDepth 20000 in
theorem ggX6_about_X2_get : GoodIn wsX6_about wsX2_get := goodIn_r _ [10, 11, 7, 12, 2, 4, 3, 5, 6, 31, 32, 33, 34] (by decide +kernel) (by decide +kernel)
set_option maxRecDepth 20000 in
theorem gX6_about_X2_get_n139 : GoodIn wsX6_about (wsX2_get) := ggX6_about_X2_get
theorem dX6_about_0 : decode cX6_about 0 = .ok (.aload_n 0, 1) := by decide +kernel
theorem dX6_about_1 : decode cX6_about 1 = .ok (.getfield 65, 3) := by decide +kernel
theorem dX6_about_4 : decode cX6_about 4 = .ok (.iload_n 1, 1) := by decide +kernel
theorem dX6_about_5 : decode cX6_about 5 = .ok (.iload_n 2, 1) := by decide +kernel
theorem dX6_about_6 : decode cX6_about 6 = .ok (.invokevirtual 202, 3) := by decide +kernel
theorem dX6_about_9 : decode cX6_about 9 = .ok (.ifCond .eq 15, 3) := by decide +kernel
theorem dX6_about_12 : decode cX6_about 12 = .ok (.aload_n 0, 1) := by decide +kernel
theorem dX6_about_13 : decode cX6_about 13 = .ok (.getfield 65, 3) := by decide +kernel
theorem dX6_about_16 : decode cX6_about 16 = .ok (.iload_n 1, 1) := by decide +kernel
theorem dX6_about_17 : decode cX6_about 17 = .ok (.iload_n 2, 1) := by decide +kernel
theorem dX6_about_18 : decode cX6_about 18 = .ok (.invokevirtual 139, 3) := by decide +kernel
theorem dX6_about_21 : decode cX6_about 21 = .ok (.goto 5, 3) := by decide +kernel
theorem dX6_about_24 : decode cX6_about 24 = .ok (.bipush (-2), 2) := by decide +kernel
theorem dX6_about_26 : decode cX6_about 26 = .ok (.ireturn, 1) := by decide +kernel
set_option maxRecDepth 20000 in
theorem ggX6_owe_X6_isPerson : GoodIn wsX6_owe wsX6_isPerson := goodIn_r _ [9] (by decide +kernel) (by decide +kernel)
set_option maxRecDepth 20000 in
theorem gX6_owe_X6_isPerson : GoodIn wsX6_owe (va_wsS RX6 166 yX6_isPerson wsX6_isPerson) := goodIn_app (goodIn_of _ (by decide +kernel)) ggX6_owe_X6_isPerson
set_option maxRecDepth 20000 in
theorem ggX6_owe_X6_leftOf : GoodIn wsX6_owe wsX6_leftOf := goodIn_r _ [13, 14, 15, 16, 17, 8, 18, 19, 20, 21, 22, 23, 24, 25, 26, 27, 28, 29, 30, 31, 32, 33, 38, 39, 40, 41, 42, 43, 44, 45, 46, 47, 48, 49, 50, 51, 52, 53, 54, 55, 56, 57, 58, 59] (by decide +kernel) (by decide +kernel)
set_option maxRecDepth 20000 in
theorem gX6_owe_X6_leftOf : GoodIn wsX6_owe (wsV RX6 143 RX6 yX6_leftOf wsX6_leftOf) := goodIn_app (goodIn_of _ (by decide +kernel)) ggX6_owe_X6_leftOf
set_option maxRecDepth 20000 in
theorem ggX6_owe_X6_owedDebtsOf : GoodIn wsX6_owe wsX6_owedDebtsOf := goodIn_r _ [37, 14, 15, 16, 17, 8, 18, 19, 20, 21, 22, 23, 24, 25, 26, 27, 28, 29, 30, 31, 32, 33, 38, 39, 40, 41, 42, 43, 44, 45, 46, 47, 48, 49, 50, 51, 52, 53, 54, 55, 56, 57, 58, 59] (by decide +kernel) (by decide +kernel)
set_option maxRecDepth 20000 in
theorem gX6_owe_X6_owedDebtsOf : GoodIn wsX6_owe (wsV RX6 184 RX6 yX6_owedDebtsOf wsX6_owedDebtsOf) := goodIn_app (goodIn_of _ (by decide +kernel)) ggX6_owe_X6_owedDebtsOf
theorem dX6_owe_0 : decode cX6_owe 0 = .ok (.iload_n 1, 1) := by decide +kernel
theorem dX6_owe_1 : decode cX6_owe 1 = .ok (.invokestatic 166, 3) := by decide +kernel
theorem dX6_owe_4 : decode cX6_owe 4 = .ok (.ifCond .ne 7, 3) := by decide +kernel
theorem dX6_owe_7 : decode cX6_owe 7 = .ok (.ldc2_w 205, 3) := by decide +kernel
theorem dX6_owe_10 : decode cX6_owe 10 = .ok (.lreturn, 1) := by decide +kernel
theorem dX6_owe_11 : decode cX6_owe 11 = .ok (.iload_n 2, 1) := by decide +kernel
theorem dX6_owe_12 : decode cX6_owe 12 = .ok (.tableswitch 90 0 4 #[36, 42, 49, 64, 71], 36) := by decide +kernel
theorem dX6_owe_48 : decode cX6_owe 48 = .ok (.aload_n 0, 1) := by decide +kernel
theorem dX6_owe_49 : decode cX6_owe 49 = .ok (.iload_n 1, 1) := by decide +kernel
theorem dX6_owe_50 : decode cX6_owe 50 = .ok (.invokevirtual 143, 3) := by decide +kernel
theorem dX6_owe_53 : decode cX6_owe 53 = .ok (.lreturn, 1) := by decide +kernel
theorem dX6_owe_54 : decode cX6_owe 54 = .ok (.aload_n 0, 1) := by decide +kernel
theorem dX6_owe_55 : decode cX6_owe 55 = .ok (.getfield 47, 3) := by decide +kernel
theorem dX6_owe_58 : decode cX6_owe 58 = .ok (.iload_n 1, 1) := by decide +kernel
theorem dX6_owe_59 : decode cX6_owe 59 = .ok (.laload, 1) := by decide +kernel
theorem dX6_owe_60 : decode cX6_owe 60 = .ok (.lreturn, 1) := by decide +kernel
theorem dX6_owe_61 : decode cX6_owe 61 = .ok (.aload_n 0, 1) := by decide +kernel
theorem dX6_owe_62 : decode cX6_owe 62 = .ok (.getfield 51, 3) := by decide +kernel
theorem dX6_owe_65 : decode cX6_owe 65 = .ok (.iload_n 1, 1) := by decide +kernel
theorem dX6_owe_66 : decode cX6_owe 66 = .ok (.baload, 1) := by decide +kernel
theorem dX6_owe_67 : decode cX6_owe 67 = .ok (.ifCond .eq 7, 3) := by decide +kernel
theorem dX6_owe_70 : decode cX6_owe 70 = .ok (.lconst 1, 1) := by decide +kernel
theorem dX6_owe_71 : decode cX6_owe 71 = .ok (.goto 4, 3) := by decide +kernel
theorem dX6_owe_74 : decode cX6_owe 74 = .ok (.lconst 0, 1) := by decide +kernel
theorem dX6_owe_75 : decode cX6_owe 75 = .ok (.lreturn, 1) := by decide +kernel
theorem dX6_owe_76 : decode cX6_owe 76 = .ok (.aload_n 0, 1) := by decide +kernel
theorem dX6_owe_77 : decode cX6_owe 77 = .ok (.iload_n 1, 1) := by decide +kernel
theorem dX6_owe_78 : decode cX6_owe 78 = .ok (.invokevirtual 184, 3) := by decide +kernel
theorem dX6_owe_81 : decode cX6_owe 81 = .ok (.i2l, 1) := by decide +kernel
theorem dX6_owe_82 : decode cX6_owe 82 = .ok (.lreturn, 1) := by decide +kernel
theorem dX6_owe_83 : decode cX6_owe 83 = .ok (.aload_n 0, 1) := by decide +kernel
theorem dX6_owe_84 : decode cX6_owe 84 = .ok (.getfield 55, 3) := by decide +kernel
theorem dX6_owe_87 : decode cX6_owe 87 = .ok (.iload_n 1, 1) := by decide +kernel
theorem dX6_owe_88 : decode cX6_owe 88 = .ok (.iaload, 1) := by decide +kernel
theorem dX6_owe_89 : decode cX6_owe 89 = .ok (.aload_n 0, 1) := by decide +kernel
theorem dX6_owe_90 : decode cX6_owe 90 = .ok (.getfield 120, 3) := by decide +kernel
theorem dX6_owe_93 : decode cX6_owe 93 = .ok (.if_icmp .ne 7, 3) := by decide +kernel
theorem dX6_owe_96 : decode cX6_owe 96 = .ok (.lconst 1, 1) := by decide +kernel
theorem dX6_owe_97 : decode cX6_owe 97 = .ok (.goto 4, 3) := by decide +kernel
theorem dX6_owe_100 : decode cX6_owe 100 = .ok (.lconst 0, 1) := by decide +kernel
theorem dX6_owe_101 : decode cX6_owe 101 = .ok (.lreturn, 1) := by decide +kernel
theorem dX6_owe_102 : decode cX6_owe 102 = .ok (.ldc2_w 205, 3) := by decide +kernel
theorem dX6_owe_105 : decode cX6_owe 105 = .ok (.lreturn, 1) := by decide +kernel
theorem dX6_isPerson_0 : decode cX6_isPerson 0 = .ok (.iload_n 0, 1) := by decide +kernel
theorem dX6_isPerson_1 : decode cX6_isPerson 1 = .ok (.ifCond .lt 13, 3) := by decide +kernel
theorem dX6_isPerson_4 : decode cX6_isPerson 4 = .ok (.iload_n 0, 1) := by decide +kernel
theorem dX6_isPerson_5 : decode cX6_isPerson 5 = .ok (.bipush 16, 2) := by decide +kernel
theorem dX6_isPerson_7 : decode cX6_isPerson 7 = .ok (.if_icmp .ge 7, 3) := by decide +kernel
theorem dX6_isPerson_10 : decode cX6_isPerson 10 = .ok (.iconst 1, 1) := by decide +kernel
theorem dX6_isPerson_11 : decode cX6_isPerson 11 = .ok (.goto 4, 3) := by decide +kernel
theorem dX6_isPerson_14 : decode cX6_isPerson 14 = .ok (.iconst 0, 1) := by decide +kernel
theorem dX6_isPerson_15 : decode cX6_isPerson 15 = .ok (.ireturn, 1) := by decide +kernel
theorem dX6_isSum_0 : decode cX6_isSum 0 = .ok (.iload_n 0, 1) := by decide +kernel
theorem dX6_isSum_1 : decode cX6_isSum 1 = .ok (.iconst 1, 1) := by decide +kernel
theorem dX6_isSum_2 : decode cX6_isSum 2 = .ok (.if_icmp .lt 13, 3) := by decide +kernel
theorem dX6_isSum_5 : decode cX6_isSum 5 = .ok (.iload_n 0, 1) := by decide +kernel
theorem dX6_isSum_6 : decode cX6_isSum 6 = .ok (.ldc 183, 2) := by decide +kernel
theorem dX6_isSum_8 : decode cX6_isSum 8 = .ok (.if_icmp .gt 7, 3) := by decide +kernel
theorem dX6_isSum_11 : decode cX6_isSum 11 = .ok (.iconst 1, 1) := by decide +kernel
theorem dX6_isSum_12 : decode cX6_isSum 12 = .ok (.goto 4, 3) := by decide +kernel
theorem dX6_isSum_15 : decode cX6_isSum 15 = .ok (.iconst 0, 1) := by decide +kernel
theorem dX6_isSum_16 : decode cX6_isSum 16 = .ok (.ireturn, 1) := by decide +kernel
set_option maxRecDepth 20000 in
theorem ggX6_isHeld_X6_isPerson : GoodIn wsX6_isHeld wsX6_isPerson := goodIn_r _ [5] (by decide +kernel) (by decide +kernel)
set_option maxRecDepth 20000 in
theorem gX6_isHeld_X6_isPerson : GoodIn wsX6_isHeld (va_wsS RX6 166 yX6_isPerson wsX6_isPerson) := goodIn_app (goodIn_of _ (by decide +kernel)) ggX6_isHeld_X6_isPerson
theorem dX6_isHeld_0 : decode cX6_isHeld 0 = .ok (.iload_n 1, 1) := by decide +kernel
theorem dX6_isHeld_1 : decode cX6_isHeld 1 = .ok (.invokestatic 166, 3) := by decide +kernel
theorem dX6_isHeld_4 : decode cX6_isHeld 4 = .ok (.ifCond .eq 16, 3) := by decide +kernel
theorem dX6_isHeld_7 : decode cX6_isHeld 7 = .ok (.aload_n 0, 1) := by decide +kernel
theorem dX6_isHeld_8 : decode cX6_isHeld 8 = .ok (.getfield 51, 3) := by decide +kernel
theorem dX6_isHeld_11 : decode cX6_isHeld 11 = .ok (.iload_n 1, 1) := by decide +kernel
theorem dX6_isHeld_12 : decode cX6_isHeld 12 = .ok (.baload, 1) := by decide +kernel
theorem dX6_isHeld_13 : decode cX6_isHeld 13 = .ok (.ifCond .eq 7, 3) := by decide +kernel
theorem dX6_isHeld_16 : decode cX6_isHeld 16 = .ok (.iconst 1, 1) := by decide +kernel
theorem dX6_isHeld_17 : decode cX6_isHeld 17 = .ok (.goto 4, 3) := by decide +kernel
theorem dX6_isHeld_20 : decode cX6_isHeld 20 = .ok (.iconst 0, 1) := by decide +kernel
theorem dX6_isHeld_21 : decode cX6_isHeld 21 = .ok (.ireturn, 1) := by decide +kernel
set_option maxRecDepth 20000 in
theorem ggX6_isOwed_X2_has : GoodIn wsX6_isOwed wsX2_has := goodIn_r _ [5, 6, 7, 31, 32, 33, 34] (by decide +kernel) (by decide +kernel)
set_option maxRecDepth 20000 in
theorem gX6_isOwed_X2_has_n202 : GoodIn wsX6_isOwed (wsX2_has) := ggX6_isOwed_X2_has
set_option maxRecDepth 20000 in
theorem ggX6_isOwed_X2_get : GoodIn wsX6_isOwed wsX2_get := goodIn_r _ [10, 11, 7, 12, 2, 4, 3, 5, 6, 31, 32, 33, 34] (by decide +kernel) (by decide +kernel)
set_option maxRecDepth 20000 in
theorem gX6_isOwed_X2_get_n139 : GoodIn wsX6_isOwed (wsX2_get) := ggX6_isOwed_X2_get
theorem dX6_isOwed_0 : decode cX6_isOwed 0 = .ok (.aload_n 0, 1) := by decide +kernel
theorem dX6_isOwed_1 : decode cX6_isOwed 1 = .ok (.getfield 65, 3) := by decide +kernel
theorem dX6_isOwed_4 : decode cX6_isOwed 4 = .ok (.iload_n 1, 1) := by decide +kernel
theorem dX6_isOwed_5 : decode cX6_isOwed 5 = .ok (.iconst 3, 1) := by decide +kernel
theorem dX6_isOwed_6 : decode cX6_isOwed 6 = .ok (.invokevirtual 202, 3) := by decide +kernel
theorem dX6_isOwed_9 : decode cX6_isOwed 9 = .ok (.ifCond .eq 19, 3) := by decide +kernel
theorem dX6_isOwed_12 : decode cX6_isOwed 12 = .ok (.aload_n 0, 1) := by decide +kernel
theorem dX6_isOwed_13 : decode cX6_isOwed 13 = .ok (.getfield 65, 3) := by decide +kernel
theorem dX6_isOwed_16 : decode cX6_isOwed 16 = .ok (.iload_n 1, 1) := by decide +kernel
theorem dX6_isOwed_17 : decode cX6_isOwed 17 = .ok (.iconst 3, 1) := by decide +kernel
theorem dX6_isOwed_18 : decode cX6_isOwed 18 = .ok (.invokevirtual 139, 3) := by decide +kernel
theorem dX6_isOwed_21 : decode cX6_isOwed 21 = .ok (.ifCond .le 7, 3) := by decide +kernel
theorem dX6_isOwed_24 : decode cX6_isOwed 24 = .ok (.iconst 1, 1) := by decide +kernel
theorem dX6_isOwed_25 : decode cX6_isOwed 25 = .ok (.goto 4, 3) := by decide +kernel
theorem dX6_isOwed_28 : decode cX6_isOwed 28 = .ok (.iconst 0, 1) := by decide +kernel
theorem dX6_isOwed_29 : decode cX6_isOwed 29 = .ok (.ireturn, 1) := by decide +kernel
set_option maxRecDepth 20000 in
theorem ggX6_isOwedBy_X6_isOwed : GoodIn wsX6_isOwedBy wsX6_isOwed := goodIn_r _ [6, 1, 7, 8, 9, 10, 11, 12, 13, 14, 15, 16, 17, 18, 19, 20, 21, 22, 23, 24, 25, 26, 27, 28, 29, 30, 31, 32, 33, 34, 35, 36, 37, 38, 39] (by decide +kernel) (by decide +kernel)
set_option maxRecDepth 20000 in
theorem gX6_isOwedBy_X6_isOwed : GoodIn wsX6_isOwedBy (wsV RX6 135 RX6 yX6_isOwed wsX6_isOwed) := goodIn_app (goodIn_of _ (by decide +kernel)) ggX6_isOwedBy_X6_isOwed
set_option maxRecDepth 20000 in
theorem ggX6_isOwedBy_X2_get : GoodIn wsX6_isOwedBy wsX2_get := goodIn_r _ [15, 16, 12, 17, 7, 9, 8, 10, 11, 36, 37, 38, 39] (by decide +kernel) (by decide +kernel)
set_option maxRecDepth 20000 in
theorem gX6_isOwedBy_X2_get_n139 : GoodIn wsX6_isOwedBy (wsX2_get) := ggX6_isOwedBy_X2_get
theorem dX6_isOwedBy_0 : decode cX6_isOwedBy 0 = .ok (.aload_n 0, 1) := by decide +kernel
theorem dX6_isOwedBy_1 : decode cX6_isOwedBy 1 = .ok (.iload_n 1, 1) := by decide +kernel
theorem dX6_isOwedBy_2 : decode cX6_isOwedBy 2 = .ok (.invokevirtual 135, 3) := by decide +kernel
theorem dX6_isOwedBy_5 : decode cX6_isOwedBy 5 = .ok (.ifCond .eq 20, 3) := by decide +kernel
theorem dX6_isOwedBy_8 : decode cX6_isOwedBy 8 = .ok (.aload_n 0, 1) := by decide +kernel
theorem dX6_isOwedBy_9 : decode cX6_isOwedBy 9 = .ok (.getfield 65, 3) := by decide +kernel
theorem dX6_isOwedBy_12 : decode cX6_isOwedBy 12 = .ok (.iload_n 1, 1) := by decide +kernel
theorem dX6_isOwedBy_13 : decode cX6_isOwedBy 13 = .ok (.iconst 0, 1) := by decide +kernel
theorem dX6_isOwedBy_14 : decode cX6_isOwedBy 14 = .ok (.invokevirtual 139, 3) := by decide +kernel
theorem dX6_isOwedBy_17 : decode cX6_isOwedBy 17 = .ok (.iload_n 2, 1) := by decide +kernel
theorem dX6_isOwedBy_18 : decode cX6_isOwedBy 18 = .ok (.if_icmp .ne 7, 3) := by decide +kernel
theorem dX6_isOwedBy_21 : decode cX6_isOwedBy 21 = .ok (.iconst 1, 1) := by decide +kernel
theorem dX6_isOwedBy_22 : decode cX6_isOwedBy 22 = .ok (.goto 4, 3) := by decide +kernel
theorem dX6_isOwedBy_25 : decode cX6_isOwedBy 25 = .ok (.iconst 0, 1) := by decide +kernel
theorem dX6_isOwedBy_26 : decode cX6_isOwedBy 26 = .ok (.ireturn, 1) := by decide +kernel
set_option maxRecDepth 20000 in
theorem ggX6_leftOf_X6_isOwedBy : GoodIn wsX6_leftOf wsX6_isOwedBy := goodIn_r _ [6, 1, 7, 8, 9, 5, 10, 11, 12, 13, 14, 15, 16, 17, 18, 19, 20, 21, 22, 23, 24, 25, 26, 27, 28, 29, 30, 31, 32, 33, 34, 35, 36, 37, 38, 39, 40, 41, 42, 43] (by decide +kernel) (by decide +kernel)
set_option maxRecDepth 20000 in
theorem gX6_leftOf_X6_isOwedBy : GoodIn wsX6_leftOf (wsV RX6 195 RX6 yX6_isOwedBy wsX6_isOwedBy) := goodIn_app (goodIn_of _ (by decide +kernel)) ggX6_leftOf_X6_isOwedBy
set_option maxRecDepth 20000 in
theorem ggX6_leftOf_X2_get : GoodIn wsX6_leftOf wsX2_get := goodIn_r _ [19, 20, 16, 21, 11, 13, 12, 14, 15, 40, 41, 42, 43] (by decide +kernel) (by decide +kernel)
set_option maxRecDepth 20000 in
theorem gX6_leftOf_X2_get_n139 : GoodIn wsX6_leftOf (wsX2_get) := ggX6_leftOf_X2_get
theorem dX6_leftOf_0 : decode cX6_leftOf 0 = .ok (.lconst 0, 1) := by decide +kernel
theorem dX6_leftOf_1 : decode cX6_leftOf 1 = .ok (.lstore_n 2, 1) := by decide +kernel
theorem dX6_leftOf_2 : decode cX6_leftOf 2 = .ok (.iconst 0, 1) := by decide +kernel
theorem dX6_leftOf_3 : decode cX6_leftOf 3 = .ok (.istore 4, 2) := by decide +kernel
theorem dX6_leftOf_5 : decode cX6_leftOf 5 = .ok (.iload 4, 2) := by decide +kernel
theorem dX6_leftOf_7 : decode cX6_leftOf 7 = .ok (.aload_n 0, 1) := by decide +kernel
theorem dX6_leftOf_8 : decode cX6_leftOf 8 = .ok (.getfield 65, 3) := by decide +kernel
theorem dX6_leftOf_11 : decode cX6_leftOf 11 = .ok (.getfield 155, 3) := by decide +kernel
theorem dX6_leftOf_14 : decode cX6_leftOf 14 = .ok (.if_icmp .ge 33, 3) := by decide +kernel
theorem dX6_leftOf_17 : decode cX6_leftOf 17 = .ok (.aload_n 0, 1) := by decide +kernel
theorem dX6_leftOf_18 : decode cX6_leftOf 18 = .ok (.iload 4, 2) := by decide +kernel
theorem dX6_leftOf_20 : decode cX6_leftOf 20 = .ok (.iload_n 1, 1) := by decide +kernel
theorem dX6_leftOf_21 : decode cX6_leftOf 21 = .ok (.invokevirtual 195, 3) := by decide +kernel
theorem dX6_leftOf_24 : decode cX6_leftOf 24 = .ok (.ifCond .eq 17, 3) := by decide +kernel
theorem dX6_leftOf_27 : decode cX6_leftOf 27 = .ok (.lload_n 2, 1) := by decide +kernel
theorem dX6_leftOf_28 : decode cX6_leftOf 28 = .ok (.aload_n 0, 1) := by decide +kernel
theorem dX6_leftOf_29 : decode cX6_leftOf 29 = .ok (.getfield 65, 3) := by decide +kernel
theorem dX6_leftOf_32 : decode cX6_leftOf 32 = .ok (.iload 4, 2) := by decide +kernel
theorem dX6_leftOf_34 : decode cX6_leftOf 34 = .ok (.iconst 3, 1) := by decide +kernel
theorem dX6_leftOf_35 : decode cX6_leftOf 35 = .ok (.invokevirtual 139, 3) := by decide +kernel
theorem dX6_leftOf_38 : decode cX6_leftOf 38 = .ok (.i2l, 1) := by decide +kernel
theorem dX6_leftOf_39 : decode cX6_leftOf 39 = .ok (.ladd, 1) := by decide +kernel
theorem dX6_leftOf_40 : decode cX6_leftOf 40 = .ok (.lstore_n 2, 1) := by decide +kernel
theorem dX6_leftOf_41 : decode cX6_leftOf 41 = .ok (.iinc 4 1, 3) := by decide +kernel
theorem dX6_leftOf_44 : decode cX6_leftOf 44 = .ok (.goto (-39), 3) := by decide +kernel
theorem dX6_leftOf_47 : decode cX6_leftOf 47 = .ok (.lload_n 2, 1) := by decide +kernel
theorem dX6_leftOf_48 : decode cX6_leftOf 48 = .ok (.lreturn, 1) := by decide +kernel
set_option maxRecDepth 20000 in
theorem ggX6_owedDebtsOf_X6_isOwedBy : GoodIn wsX6_owedDebtsOf wsX6_isOwedBy := goodIn_r _ [6, 1, 7, 8, 9, 5, 10, 11, 12, 13, 14, 15, 16, 17, 18, 19, 20, 21, 22, 23, 24, 25, 26, 27, 28, 29, 30, 31, 32, 33, 34, 35, 36, 37, 38, 39, 40, 41, 42, 43] (by decide +kernel) (by decide +kernel)
set_option maxRecDepth 20000 in
theorem gX6_owedDebtsOf_X6_isOwedBy : GoodIn wsX6_owedDebtsOf (wsV RX6 195 RX6 yX6_isOwedBy wsX6_isOwedBy) := goodIn_app (goodIn_of _ (by decide +kernel)) ggX6_owedDebtsOf_X6_isOwedBy
theorem dX6_owedDebtsOf_0 : decode cX6_owedDebtsOf 0 = .ok (.iconst 0, 1) := by decide +kernel
theorem dX6_owedDebtsOf_1 : decode cX6_owedDebtsOf 1 = .ok (.istore_n 2, 1) := by decide +kernel
theorem dX6_owedDebtsOf_2 : decode cX6_owedDebtsOf 2 = .ok (.iconst 0, 1) := by decide +kernel
theorem dX6_owedDebtsOf_3 : decode cX6_owedDebtsOf 3 = .ok (.istore_n 3, 1) := by decide +kernel
theorem dX6_owedDebtsOf_4 : decode cX6_owedDebtsOf 4 = .ok (.iload_n 3, 1) := by decide +kernel
theorem dX6_owedDebtsOf_5 : decode cX6_owedDebtsOf 5 = .ok (.aload_n 0, 1) := by decide +kernel
theorem dX6_owedDebtsOf_6 : decode cX6_owedDebtsOf 6 = .ok (.getfield 65, 3) := by decide +kernel
theorem dX6_owedDebtsOf_9 : decode cX6_owedDebtsOf 9 = .ok (.getfield 155, 3) := by decide +kernel
theorem dX6_owedDebtsOf_12 : decode cX6_owedDebtsOf 12 = .ok (.if_icmp .ge 21, 3) := by decide +kernel
theorem dX6_owedDebtsOf_15 : decode cX6_owedDebtsOf 15 = .ok (.aload_n 0, 1) := by decide +kernel
theorem dX6_owedDebtsOf_16 : decode cX6_owedDebtsOf 16 = .ok (.iload_n 3, 1) := by decide +kernel
theorem dX6_owedDebtsOf_17 : decode cX6_owedDebtsOf 17 = .ok (.iload_n 1, 1) := by decide +kernel
theorem dX6_owedDebtsOf_18 : decode cX6_owedDebtsOf 18 = .ok (.invokevirtual 195, 3) := by decide +kernel
theorem dX6_owedDebtsOf_21 : decode cX6_owedDebtsOf 21 = .ok (.ifCond .eq 6, 3) := by decide +kernel
theorem dX6_owedDebtsOf_24 : decode cX6_owedDebtsOf 24 = .ok (.iinc 2 1, 3) := by decide +kernel
theorem dX6_owedDebtsOf_27 : decode cX6_owedDebtsOf 27 = .ok (.iinc 3 1, 3) := by decide +kernel
theorem dX6_owedDebtsOf_30 : decode cX6_owedDebtsOf 30 = .ok (.goto (-26), 3) := by decide +kernel
theorem dX6_owedDebtsOf_33 : decode cX6_owedDebtsOf 33 = .ok (.iload_n 2, 1) := by decide +kernel
theorem dX6_owedDebtsOf_34 : decode cX6_owedDebtsOf 34 = .ok (.ireturn, 1) := by decide +kernel
set_option maxRecDepth 20000 in
theorem ggX6_addDebt_X2_add : GoodIn wsX6_addDebt wsX2_add := goodIn_r _ [6, 7, 8, 9, 10, 11, 12, 4, 13, 14, 15, 16, 17, 18, 19, 20, 21, 22, 23, 24, 25, 26, 27, 28, 29, 30, 31, 32, 33, 59, 60, 61, 62] (by decide +kernel) (by decide +kernel)
set_option maxRecDepth 20000 in
theorem gX6_addDebt_X2_add_n123 : GoodIn wsX6_addDebt (wsX2_add) := ggX6_addDebt_X2_add
set_option maxRecDepth 20000 in
theorem ggX6_addDebt_X2_set : GoodIn wsX6_addDebt wsX2_set := goodIn_r _ [36, 9, 8, 37, 38, 39, 4, 40, 7, 59, 60, 61, 62] (by decide +kernel) (by decide +kernel)
set_option maxRecDepth 20000 in
theorem gX6_addDebt_X2_set_n127 : GoodIn wsX6_addDebt (wsX2_set) := ggX6_addDebt_X2_set
theorem dX6_addDebt_0 : decode cX6_addDebt 0 = .ok (.aload_n 0, 1) := by decide +kernel
theorem dX6_addDebt_1 : decode cX6_addDebt 1 = .ok (.getfield 65, 3) := by decide +kernel
theorem dX6_addDebt_4 : decode cX6_addDebt 4 = .ok (.invokevirtual 123, 3) := by decide +kernel
theorem dX6_addDebt_7 : decode cX6_addDebt 7 = .ok (.istore 5, 2) := by decide +kernel
theorem dX6_addDebt_9 : decode cX6_addDebt 9 = .ok (.aload_n 0, 1) := by decide +kernel
theorem dX6_addDebt_10 : decode cX6_addDebt 10 = .ok (.getfield 65, 3) := by decide +kernel
theorem dX6_addDebt_13 : decode cX6_addDebt 13 = .ok (.iload 5, 2) := by decide +kernel
theorem dX6_addDebt_15 : decode cX6_addDebt 15 = .ok (.iconst 0, 1) := by decide +kernel
