theorem dX0_init_0 : decode cX0_init 0 = .ok (.aload_n 0, 1) := by decide +kernel
theorem dX0_init_1 : decode cX0_init 1 = .ok (.invokespecial 3, 3) := by decide +kernel
theorem dX0_init_4 : decode cX0_init 4 = .ok (.aload_n 0, 1) := by decide +kernel
theorem dX0_init_5 : decode cX0_init 5 = .ok (.bipush 6, 2) := by decide +kernel
theorem dX0_init_7 : decode cX0_init 7 = .ok (.newarray .int, 2) := by decide +kernel
theorem dX0_init_9 : decode cX0_init 9 = .ok (.putfield 9, 3) := by decide +kernel
theorem dX0_init_12 : decode cX0_init 12 = .ok (.return_, 1) := by decide +kernel
theorem dX0_notches_0 : decode cX0_notches 0 = .ok (.iload_n 1, 1) := by decide +kernel
theorem dX0_notches_1 : decode cX0_notches 1 = .ok (.tableswitch 83 0 5 #[39, 44, 52, 61, 69, 78], 39) := by decide +kernel
theorem dX0_notches_40 : decode cX0_notches 40 = .ok (.iload_n 0, 1) := by decide +kernel
theorem dX0_notches_41 : decode cX0_notches 41 = .ok (.bipush 12, 2) := by decide +kernel
theorem dX0_notches_43 : decode cX0_notches 43 = .ok (.irem, 1) := by decide +kernel
theorem dX0_notches_44 : decode cX0_notches 44 = .ok (.ireturn, 1) := by decide +kernel
theorem dX0_notches_45 : decode cX0_notches 45 = .ok (.iload_n 0, 1) := by decide +kernel
theorem dX0_notches_46 : decode cX0_notches 46 = .ok (.bipush 12, 2) := by decide +kernel
theorem dX0_notches_48 : decode cX0_notches 48 = .ok (.idiv, 1) := by decide +kernel
theorem dX0_notches_49 : decode cX0_notches 49 = .ok (.bipush 20, 2) := by decide +kernel
theorem dX0_notches_51 : decode cX0_notches 51 = .ok (.irem, 1) := by decide +kernel
theorem dX0_notches_52 : decode cX0_notches 52 = .ok (.ireturn, 1) := by decide +kernel
theorem dX0_notches_53 : decode cX0_notches 53 = .ok (.iload_n 0, 1) := by decide +kernel
theorem dX0_notches_54 : decode cX0_notches 54 = .ok (.sipush 240, 3) := by decide +kernel
theorem dX0_notches_57 : decode cX0_notches 57 = .ok (.idiv, 1) := by decide +kernel
theorem dX0_notches_58 : decode cX0_notches 58 = .ok (.bipush 20, 2) := by decide +kernel
theorem dX0_notches_60 : decode cX0_notches 60 = .ok (.irem, 1) := by decide +kernel
theorem dX0_notches_61 : decode cX0_notches 61 = .ok (.ireturn, 1) := by decide +kernel
theorem dX0_notches_62 : decode cX0_notches 62 = .ok (.iload_n 0, 1) := by decide +kernel
theorem dX0_notches_63 : decode cX0_notches 63 = .ok (.sipush 4800, 3) := by decide +kernel
theorem dX0_notches_66 : decode cX0_notches 66 = .ok (.idiv, 1) := by decide +kernel
theorem dX0_notches_67 : decode cX0_notches 67 = .ok (.iconst 5, 1) := by decide +kernel
theorem dX0_notches_68 : decode cX0_notches 68 = .ok (.irem, 1) := by decide +kernel
theorem dX0_notches_69 : decode cX0_notches 69 = .ok (.ireturn, 1) := by decide +kernel
theorem dX0_notches_70 : decode cX0_notches 70 = .ok (.iload_n 0, 1) := by decide +kernel
theorem dX0_notches_71 : decode cX0_notches 71 = .ok (.sipush 24000, 3) := by decide +kernel
theorem dX0_notches_74 : decode cX0_notches 74 = .ok (.idiv, 1) := by decide +kernel
theorem dX0_notches_75 : decode cX0_notches 75 = .ok (.bipush 10, 2) := by decide +kernel
theorem dX0_notches_77 : decode cX0_notches 77 = .ok (.irem, 1) := by decide +kernel
theorem dX0_notches_78 : decode cX0_notches 78 = .ok (.ireturn, 1) := by decide +kernel
theorem dX0_notches_79 : decode cX0_notches 79 = .ok (.iload_n 0, 1) := by decide +kernel
theorem dX0_notches_80 : decode cX0_notches 80 = .ok (.ldc 15, 2) := by decide +kernel
theorem dX0_notches_82 : decode cX0_notches 82 = .ok (.idiv, 1) := by decide +kernel
theorem dX0_notches_83 : decode cX0_notches 83 = .ok (.ireturn, 1) := by decide +kernel
theorem dX0_notches_84 : decode cX0_notches 84 = .ok (.iconst 0, 1) := by decide +kernel
theorem dX0_notches_85 : decode cX0_notches 85 = .ok (.ireturn, 1) := by decide +kernel
theorem dX0_lies_0 : decode cX0_lies 0 = .ok (.lconst 0, 1) := by decide +kernel
theorem dX0_lies_1 : decode cX0_lies 1 = .ok (.lstore_n 1, 1) := by decide +kernel
theorem dX0_lies_2 : decode cX0_lies 2 = .ok (.iconst 0, 1) := by decide +kernel
theorem dX0_lies_3 : decode cX0_lies 3 = .ok (.istore_n 3, 1) := by decide +kernel
theorem dX0_lies_4 : decode cX0_lies 4 = .ok (.iload_n 3, 1) := by decide +kernel
theorem dX0_lies_5 : decode cX0_lies 5 = .ok (.bipush 6, 2) := by decide +kernel
theorem dX0_lies_7 : decode cX0_lies 7 = .ok (.if_icmp .ge 26, 3) := by decide +kernel
theorem dX0_lies_10 : decode cX0_lies 10 = .ok (.lload_n 1, 1) := by decide +kernel
theorem dX0_lies_11 : decode cX0_lies 11 = .ok (.aload_n 0, 1) := by decide +kernel
theorem dX0_lies_12 : decode cX0_lies 12 = .ok (.getfield 9, 3) := by decide +kernel
theorem dX0_lies_15 : decode cX0_lies 15 = .ok (.iload_n 3, 1) := by decide +kernel
theorem dX0_lies_16 : decode cX0_lies 16 = .ok (.iaload, 1) := by decide +kernel
theorem dX0_lies_17 : decode cX0_lies 17 = .ok (.i2l, 1) := by decide +kernel
theorem dX0_lies_18 : decode cX0_lies 18 = .ok (.getstatic 16, 3) := by decide +kernel
theorem dX0_lies_21 : decode cX0_lies 21 = .ok (.iload_n 3, 1) := by decide +kernel
theorem dX0_lies_22 : decode cX0_lies 22 = .ok (.iaload, 1) := by decide +kernel
theorem dX0_lies_23 : decode cX0_lies 23 = .ok (.i2l, 1) := by decide +kernel
theorem dX0_lies_24 : decode cX0_lies 24 = .ok (.lmul, 1) := by decide +kernel
theorem dX0_lies_25 : decode cX0_lies 25 = .ok (.ladd, 1) := by decide +kernel
theorem dX0_lies_26 : decode cX0_lies 26 = .ok (.lstore_n 1, 1) := by decide +kernel
theorem dX0_lies_27 : decode cX0_lies 27 = .ok (.iinc 3 1, 3) := by decide +kernel
theorem dX0_lies_30 : decode cX0_lies 30 = .ok (.goto (-26), 3) := by decide +kernel
theorem dX0_lies_33 : decode cX0_lies 33 = .ok (.lload_n 1, 1) := by decide +kernel
theorem dX0_lies_34 : decode cX0_lies 34 = .ok (.lreturn, 1) := by decide +kernel
set_option maxRecDepth 20000 in
theorem ggX0_layDown_X0_notches : GoodIn wsX0_layDown wsX0_notches := goodIn_r _ [6, 7] (by decide +kernel) (by decide +kernel)
set_option maxRecDepth 20000 in
theorem gX0_layDown_X0_notches : GoodIn wsX0_layDown (va_wsS RX0 19 yX0_notches wsX0_notches) := goodIn_app (goodIn_of _ (by decide +kernel)) ggX0_layDown_X0_notches
theorem dX0_layDown_0 : decode cX0_layDown 0 = .ok (.iconst 0, 1) := by decide +kernel
theorem dX0_layDown_1 : decode cX0_layDown 1 = .ok (.istore_n 2, 1) := by decide +kernel
theorem dX0_layDown_2 : decode cX0_layDown 2 = .ok (.iload_n 2, 1) := by decide +kernel
theorem dX0_layDown_3 : decode cX0_layDown 3 = .ok (.bipush 6, 2) := by decide +kernel
theorem dX0_layDown_5 : decode cX0_layDown 5 = .ok (.if_icmp .ge 23, 3) := by decide +kernel
theorem dX0_layDown_8 : decode cX0_layDown 8 = .ok (.aload_n 0, 1) := by decide +kernel
theorem dX0_layDown_9 : decode cX0_layDown 9 = .ok (.getfield 9, 3) := by decide +kernel
theorem dX0_layDown_12 : decode cX0_layDown 12 = .ok (.iload_n 2, 1) := by decide +kernel
theorem dX0_layDown_13 : decode cX0_layDown 13 = .ok (.dup2, 1) := by decide +kernel
theorem dX0_layDown_14 : decode cX0_layDown 14 = .ok (.iaload, 1) := by decide +kernel
theorem dX0_layDown_15 : decode cX0_layDown 15 = .ok (.iload_n 1, 1) := by decide +kernel
theorem dX0_layDown_16 : decode cX0_layDown 16 = .ok (.iload_n 2, 1) := by decide +kernel
theorem dX0_layDown_17 : decode cX0_layDown 17 = .ok (.invokestatic 19, 3) := by decide +kernel
theorem dX0_layDown_20 : decode cX0_layDown 20 = .ok (.iadd, 1) := by decide +kernel
theorem dX0_layDown_21 : decode cX0_layDown 21 = .ok (.iastore, 1) := by decide +kernel
theorem dX0_layDown_22 : decode cX0_layDown 22 = .ok (.iinc 2 1, 3) := by decide +kernel
theorem dX0_layDown_25 : decode cX0_layDown 25 = .ok (.goto (-23), 3) := by decide +kernel
theorem dX0_layDown_28 : decode cX0_layDown 28 = .ok (.iconst 0, 1) := by decide +kernel
theorem dX0_layDown_29 : decode cX0_layDown 29 = .ok (.istore_n 2, 1) := by decide +kernel
theorem dX0_layDown_30 : decode cX0_layDown 30 = .ok (.iconst 0, 1) := by decide +kernel
theorem dX0_layDown_31 : decode cX0_layDown 31 = .ok (.istore_n 3, 1) := by decide +kernel
theorem dX0_layDown_32 : decode cX0_layDown 32 = .ok (.iload_n 3, 1) := by decide +kernel
theorem dX0_layDown_33 : decode cX0_layDown 33 = .ok (.getstatic 23, 3) := by decide +kernel
theorem dX0_layDown_36 : decode cX0_layDown 36 = .ok (.arraylength, 1) := by decide +kernel
theorem dX0_layDown_37 : decode cX0_layDown 37 = .ok (.if_icmp .ge 52, 3) := by decide +kernel
theorem dX0_layDown_40 : decode cX0_layDown 40 = .ok (.aload_n 0, 1) := by decide +kernel
theorem dX0_layDown_41 : decode cX0_layDown 41 = .ok (.getfield 9, 3) := by decide +kernel
theorem dX0_layDown_44 : decode cX0_layDown 44 = .ok (.iload_n 3, 1) := by decide +kernel
theorem dX0_layDown_45 : decode cX0_layDown 45 = .ok (.iaload, 1) := by decide +kernel
theorem dX0_layDown_46 : decode cX0_layDown 46 = .ok (.getstatic 23, 3) := by decide +kernel
theorem dX0_layDown_49 : decode cX0_layDown 49 = .ok (.iload_n 3, 1) := by decide +kernel
theorem dX0_layDown_50 : decode cX0_layDown 50 = .ok (.iaload, 1) := by decide +kernel
theorem dX0_layDown_51 : decode cX0_layDown 51 = .ok (.if_icmp .lt 32, 3) := by decide +kernel
theorem dX0_layDown_54 : decode cX0_layDown 54 = .ok (.aload_n 0, 1) := by decide +kernel
theorem dX0_layDown_55 : decode cX0_layDown 55 = .ok (.getfield 9, 3) := by decide +kernel
theorem dX0_layDown_58 : decode cX0_layDown 58 = .ok (.iload_n 3, 1) := by decide +kernel
theorem dX0_layDown_59 : decode cX0_layDown 59 = .ok (.dup2, 1) := by decide +kernel
theorem dX0_layDown_60 : decode cX0_layDown 60 = .ok (.iaload, 1) := by decide +kernel
theorem dX0_layDown_61 : decode cX0_layDown 61 = .ok (.getstatic 23, 3) := by decide +kernel
theorem dX0_layDown_64 : decode cX0_layDown 64 = .ok (.iload_n 3, 1) := by decide +kernel
theorem dX0_layDown_65 : decode cX0_layDown 65 = .ok (.iaload, 1) := by decide +kernel
theorem dX0_layDown_66 : decode cX0_layDown 66 = .ok (.isub, 1) := by decide +kernel
theorem dX0_layDown_67 : decode cX0_layDown 67 = .ok (.iastore, 1) := by decide +kernel
theorem dX0_layDown_68 : decode cX0_layDown 68 = .ok (.aload_n 0, 1) := by decide +kernel
theorem dX0_layDown_69 : decode cX0_layDown 69 = .ok (.getfield 9, 3) := by decide +kernel
theorem dX0_layDown_72 : decode cX0_layDown 72 = .ok (.iload_n 3, 1) := by decide +kernel
theorem dX0_layDown_73 : decode cX0_layDown 73 = .ok (.iconst 1, 1) := by decide +kernel
theorem dX0_layDown_74 : decode cX0_layDown 74 = .ok (.iadd, 1) := by decide +kernel
theorem dX0_layDown_75 : decode cX0_layDown 75 = .ok (.dup2, 1) := by decide +kernel
theorem dX0_layDown_76 : decode cX0_layDown 76 = .ok (.iaload, 1) := by decide +kernel
theorem dX0_layDown_77 : decode cX0_layDown 77 = .ok (.iconst 1, 1) := by decide +kernel
theorem dX0_layDown_78 : decode cX0_layDown 78 = .ok (.iadd, 1) := by decide +kernel
theorem dX0_layDown_79 : decode cX0_layDown 79 = .ok (.iastore, 1) := by decide +kernel
theorem dX0_layDown_80 : decode cX0_layDown 80 = .ok (.iinc 2 1, 3) := by decide +kernel
theorem dX0_layDown_83 : decode cX0_layDown 83 = .ok (.iinc 3 1, 3) := by decide +kernel
theorem dX0_layDown_86 : decode cX0_layDown 86 = .ok (.goto (-54), 3) := by decide +kernel
theorem dX0_layDown_89 : decode cX0_layDown 89 = .ok (.iload_n 2, 1) := by decide +kernel
theorem dX0_layDown_90 : decode cX0_layDown 90 = .ok (.ireturn, 1) := by decide +kernel
set_option maxRecDepth 20000 in
theorem ggX0_takeUp_X0_notches : GoodIn wsX0_takeUp wsX0_notches := goodIn_r _ [5, 6] (by decide +kernel) (by decide +kernel)
set_option maxRecDepth 20000 in
theorem gX0_takeUp_X0_notches : GoodIn wsX0_takeUp (va_wsS RX0 19 yX0_notches wsX0_notches) := goodIn_app (goodIn_of _ (by decide +kernel)) ggX0_takeUp_X0_notches
set_option maxRecDepth 20000 in
theorem ggX0_takeUp_X0_bringDown : GoodIn wsX0_takeUp wsX0_bringDown := goodIn_r _ [10, 1, 11, 12] (by decide +kernel) (by decide +kernel)
set_option maxRecDepth 20000 in
theorem gX0_takeUp_X0_bringDown : GoodIn wsX0_takeUp (wsV RX0 26 RX0 yX0_bringDown wsX0_bringDown) := goodIn_app (goodIn_of _ (by decide +kernel)) ggX0_takeUp_X0_bringDown
theorem dX0_takeUp_0 : decode cX0_takeUp 0 = .ok (.iconst 0, 1) := by decide +kernel
theorem dX0_takeUp_1 : decode cX0_takeUp 1 = .ok (.istore_n 2, 1) := by decide +kernel
theorem dX0_takeUp_2 : decode cX0_takeUp 2 = .ok (.iconst 0, 1) := by decide +kernel
theorem dX0_takeUp_3 : decode cX0_takeUp 3 = .ok (.istore_n 3, 1) := by decide +kernel
theorem dX0_takeUp_4 : decode cX0_takeUp 4 = .ok (.iload_n 3, 1) := by decide +kernel
theorem dX0_takeUp_5 : decode cX0_takeUp 5 = .ok (.bipush 6, 2) := by decide +kernel
theorem dX0_takeUp_7 : decode cX0_takeUp 7 = .ok (.if_icmp .ge 46, 3) := by decide +kernel
theorem dX0_takeUp_10 : decode cX0_takeUp 10 = .ok (.iload_n 1, 1) := by decide +kernel
theorem dX0_takeUp_11 : decode cX0_takeUp 11 = .ok (.iload_n 3, 1) := by decide +kernel
theorem dX0_takeUp_12 : decode cX0_takeUp 12 = .ok (.invokestatic 19, 3) := by decide +kernel
theorem dX0_takeUp_15 : decode cX0_takeUp 15 = .ok (.istore 4, 2) := by decide +kernel
theorem dX0_takeUp_17 : decode cX0_takeUp 17 = .ok (.aload_n 0, 1) := by decide +kernel
theorem dX0_takeUp_18 : decode cX0_takeUp 18 = .ok (.getfield 9, 3) := by decide +kernel
theorem dX0_takeUp_21 : decode cX0_takeUp 21 = .ok (.iload_n 3, 1) := by decide +kernel
theorem dX0_takeUp_22 : decode cX0_takeUp 22 = .ok (.iaload, 1) := by decide +kernel
theorem dX0_takeUp_23 : decode cX0_takeUp 23 = .ok (.iload 4, 2) := by decide +kernel
theorem dX0_takeUp_25 : decode cX0_takeUp 25 = .ok (.if_icmp .ge 11, 3) := by decide +kernel
theorem dX0_takeUp_28 : decode cX0_takeUp 28 = .ok (.iload_n 2, 1) := by decide +kernel
theorem dX0_takeUp_29 : decode cX0_takeUp 29 = .ok (.aload_n 0, 1) := by decide +kernel
theorem dX0_takeUp_30 : decode cX0_takeUp 30 = .ok (.iload_n 3, 1) := by decide +kernel
theorem dX0_takeUp_31 : decode cX0_takeUp 31 = .ok (.invokevirtual 26, 3) := by decide +kernel
theorem dX0_takeUp_34 : decode cX0_takeUp 34 = .ok (.iadd, 1) := by decide +kernel
theorem dX0_takeUp_35 : decode cX0_takeUp 35 = .ok (.istore_n 2, 1) := by decide +kernel
theorem dX0_takeUp_36 : decode cX0_takeUp 36 = .ok (.aload_n 0, 1) := by decide +kernel
theorem dX0_takeUp_37 : decode cX0_takeUp 37 = .ok (.getfield 9, 3) := by decide +kernel
theorem dX0_takeUp_40 : decode cX0_takeUp 40 = .ok (.iload_n 3, 1) := by decide +kernel
theorem dX0_takeUp_41 : decode cX0_takeUp 41 = .ok (.dup2, 1) := by decide +kernel
theorem dX0_takeUp_42 : decode cX0_takeUp 42 = .ok (.iaload, 1) := by decide +kernel
theorem dX0_takeUp_43 : decode cX0_takeUp 43 = .ok (.iload 4, 2) := by decide +kernel
theorem dX0_takeUp_45 : decode cX0_takeUp 45 = .ok (.isub, 1) := by decide +kernel
theorem dX0_takeUp_46 : decode cX0_takeUp 46 = .ok (.iastore, 1) := by decide +kernel
theorem dX0_takeUp_47 : decode cX0_takeUp 47 = .ok (.iinc 3 1, 3) := by decide +kernel
theorem dX0_takeUp_50 : decode cX0_takeUp 50 = .ok (.goto (-46), 3) := by decide +kernel
theorem dX0_takeUp_53 : decode cX0_takeUp 53 = .ok (.iload_n 2, 1) := by decide +kernel
theorem dX0_takeUp_54 : decode cX0_takeUp 54 = .ok (.ireturn, 1) := by decide +kernel
theorem dX0_bringDown_0 : decode cX0_bringDown 0 = .ok (.iload_n 1, 1) := by decide +kernel
theorem dX0_bringDown_1 : decode cX0_bringDown 1 = .ok (.iconst 1, 1) := by decide +kernel
theorem dX0_bringDown_2 : decode cX0_bringDown 2 = .ok (.iadd, 1) := by decide +kernel
theorem dX0_bringDown_3 : decode cX0_bringDown 3 = .ok (.istore_n 2, 1) := by decide +kernel
theorem dX0_bringDown_4 : decode cX0_bringDown 4 = .ok (.iload_n 2, 1) := by decide +kernel
theorem dX0_bringDown_5 : decode cX0_bringDown 5 = .ok (.bipush 6, 2) := by decide +kernel
theorem dX0_bringDown_7 : decode cX0_bringDown 7 = .ok (.if_icmp .ge 19, 3) := by decide +kernel
theorem dX0_bringDown_10 : decode cX0_bringDown 10 = .ok (.aload_n 0, 1) := by decide +kernel
theorem dX0_bringDown_11 : decode cX0_bringDown 11 = .ok (.getfield 9, 3) := by decide +kernel
theorem dX0_bringDown_14 : decode cX0_bringDown 14 = .ok (.iload_n 2, 1) := by decide +kernel
theorem dX0_bringDown_15 : decode cX0_bringDown 15 = .ok (.iaload, 1) := by decide +kernel
theorem dX0_bringDown_16 : decode cX0_bringDown 16 = .ok (.iconst 1, 1) := by decide +kernel
theorem dX0_bringDown_17 : decode cX0_bringDown 17 = .ok (.if_icmp .ge 9, 3) := by decide +kernel
theorem dX0_bringDown_20 : decode cX0_bringDown 20 = .ok (.iinc 2 1, 3) := by decide +kernel
theorem dX0_bringDown_23 : decode cX0_bringDown 23 = .ok (.goto (-19), 3) := by decide +kernel
theorem dX0_bringDown_26 : decode cX0_bringDown 26 = .ok (.iload_n 2, 1) := by decide +kernel
theorem dX0_bringDown_27 : decode cX0_bringDown 27 = .ok (.bipush 6, 2) := by decide +kernel
theorem dX0_bringDown_29 : decode cX0_bringDown 29 = .ok (.if_icmp .lt 5, 3) := by decide +kernel
theorem dX0_bringDown_32 : decode cX0_bringDown 32 = .ok (.iconst 0, 1) := by decide +kernel
theorem dX0_bringDown_33 : decode cX0_bringDown 33 = .ok (.ireturn, 1) := by decide +kernel
theorem dX0_bringDown_34 : decode cX0_bringDown 34 = .ok (.iload_n 2, 1) := by decide +kernel
theorem dX0_bringDown_35 : decode cX0_bringDown 35 = .ok (.istore_n 3, 1) := by decide +kernel
theorem dX0_bringDown_36 : decode cX0_bringDown 36 = .ok (.iload_n 3, 1) := by decide +kernel
theorem dX0_bringDown_37 : decode cX0_bringDown 37 = .ok (.iload_n 1, 1) := by decide +kernel
theorem dX0_bringDown_38 : decode cX0_bringDown 38 = .ok (.if_icmp .le 37, 3) := by decide +kernel
theorem dX0_bringDown_41 : decode cX0_bringDown 41 = .ok (.aload_n 0, 1) := by decide +kernel
theorem dX0_bringDown_42 : decode cX0_bringDown 42 = .ok (.getfield 9, 3) := by decide +kernel
theorem dX0_bringDown_45 : decode cX0_bringDown 45 = .ok (.iload_n 3, 1) := by decide +kernel
theorem dX0_bringDown_46 : decode cX0_bringDown 46 = .ok (.dup2, 1) := by decide +kernel
theorem dX0_bringDown_47 : decode cX0_bringDown 47 = .ok (.iaload, 1) := by decide +kernel
theorem dX0_bringDown_48 : decode cX0_bringDown 48 = .ok (.iconst 1, 1) := by decide +kernel
theorem dX0_bringDown_49 : decode cX0_bringDown 49 = .ok (.isub, 1) := by decide +kernel
theorem dX0_bringDown_50 : decode cX0_bringDown 50 = .ok (.iastore, 1) := by decide +kernel
theorem dX0_bringDown_51 : decode cX0_bringDown 51 = .ok (.aload_n 0, 1) := by decide +kernel
theorem dX0_bringDown_52 : decode cX0_bringDown 52 = .ok (.getfield 9, 3) := by decide +kernel
theorem dX0_bringDown_55 : decode cX0_bringDown 55 = .ok (.iload_n 3, 1) := by decide +kernel
theorem dX0_bringDown_56 : decode cX0_bringDown 56 = .ok (.iconst 1, 1) := by decide +kernel
theorem dX0_bringDown_57 : decode cX0_bringDown 57 = .ok (.isub, 1) := by decide +kernel
theorem dX0_bringDown_58 : decode cX0_bringDown 58 = .ok (.dup2, 1) := by decide +kernel
theorem dX0_bringDown_59 : decode cX0_bringDown 59 = .ok (.iaload, 1) := by decide +kernel
theorem dX0_bringDown_60 : decode cX0_bringDown 60 = .ok (.getstatic 23, 3) := by decide +kernel
theorem dX0_bringDown_63 : decode cX0_bringDown 63 = .ok (.iload_n 3, 1) := by decide +kernel
theorem dX0_bringDown_64 : decode cX0_bringDown 64 = .ok (.iconst 1, 1) := by decide +kernel
theorem dX0_bringDown_65 : decode cX0_bringDown 65 = .ok (.isub, 1) := by decide +kernel
theorem dX0_bringDown_66 : decode cX0_bringDown 66 = .ok (.iaload, 1) := by decide +kernel
theorem dX0_bringDown_67 : decode cX0_bringDown 67 = .ok (.iadd, 1) := by decide +kernel
theorem dX0_bringDown_68 : decode cX0_bringDown 68 = .ok (.iastore, 1) := by decide +kernel
theorem dX0_bringDown_69 : decode cX0_bringDown 69 = .ok (.iinc 3 (-1), 3) := by decide +kernel
theorem dX0_bringDown_72 : decode cX0_bringDown 72 = .ok (.goto (-36), 3) := by decide +kernel
theorem dX0_bringDown_75 : decode cX0_bringDown 75 = .ok (.iload_n 2, 1) := by decide +kernel
theorem dX0_bringDown_76 : decode cX0_bringDown 76 = .ok (.iload_n 1, 1) := by decide +kernel
theorem dX0_bringDown_77 : decode cX0_bringDown 77 = .ok (.isub, 1) := by decide +kernel
theorem dX0_bringDown_78 : decode cX0_bringDown 78 = .ok (.ireturn, 1) := by decide +kernel
theorem dX1_init_0 : decode cX1_init 0 = .ok (.aload_n 0, 1) := by decide +kernel
theorem dX1_init_1 : decode cX1_init 1 = .ok (.invokespecial 3, 3) := by decide +kernel
theorem dX1_init_4 : decode cX1_init 4 = .ok (.aload_n 0, 1) := by decide +kernel
theorem dX1_init_5 : decode cX1_init 5 = .ok (.bipush 64, 2) := by decide +kernel
theorem dX1_init_7 : decode cX1_init 7 = .ok (.newarray .int, 2) := by decide +kernel
theorem dX1_init_9 : decode cX1_init 9 = .ok (.putfield 11, 3) := by decide +kernel
theorem dX1_init_12 : decode cX1_init 12 = .ok (.aload_n 0, 1) := by decide +kernel
theorem dX1_init_13 : decode cX1_init 13 = .ok (.bipush 40, 2) := by decide +kernel
theorem dX1_init_15 : decode cX1_init 15 = .ok (.newarray .int, 2) := by decide +kernel
theorem dX1_init_17 : decode cX1_init 17 = .ok (.putfield 15, 3) := by decide +kernel
theorem dX1_init_20 : decode cX1_init 20 = .ok (.aload_n 0, 1) := by decide +kernel
theorem dX1_init_21 : decode cX1_init 21 = .ok (.bipush 40, 2) := by decide +kernel
theorem dX1_init_23 : decode cX1_init 23 = .ok (.newarray .int, 2) := by decide +kernel
theorem dX1_init_25 : decode cX1_init 25 = .ok (.putfield 18, 3) := by decide +kernel
theorem dX1_init_28 : decode cX1_init 28 = .ok (.aload_n 0, 1) := by decide +kernel
theorem dX1_init_29 : decode cX1_init 29 = .ok (.bipush 40, 2) := by decide +kernel
theorem dX1_init_31 : decode cX1_init 31 = .ok (.newarray .int, 2) := by decide +kernel
theorem dX1_init_33 : decode cX1_init 33 = .ok (.putfield 21, 3) := by decide +kernel
theorem dX1_init_36 : decode cX1_init 36 = .ok (.aload_n 0, 1) := by decide +kernel
theorem dX1_init_37 : decode cX1_init 37 = .ok (.sipush 800, 3) := by decide +kernel
theorem dX1_init_40 : decode cX1_init 40 = .ok (.newarray .int, 2) := by decide +kernel
theorem dX1_init_42 : decode cX1_init 42 = .ok (.putfield 24, 3) := by decide +kernel
theorem dX1_init_45 : decode cX1_init 45 = .ok (.aload_n 0, 1) := by decide +kernel
theorem dX1_init_46 : decode cX1_init 46 = .ok (.aload_n 1, 1) := by decide +kernel
theorem dX1_init_47 : decode cX1_init 47 = .ok (.putfield 27, 3) := by decide +kernel
theorem dX1_init_50 : decode cX1_init 50 = .ok (.return_, 1) := by decide +kernel
set_option maxRecDepth 20000 in
theorem ggX1_readTape_X1_nextToken : GoodIn wsX1_readTape wsX1_nextToken := goodIn_r _ [14, 1, 15, 16, 9, 17, 18, 19, 20, 21, 22, 23, 24, 25, 13, 26, 27, 28, 29, 30, 31, 32, 33, 34, 35, 36, 37, 38, 39, 40, 41, 42, 43, 44, 45, 46, 47, 48, 49, 50, 51, 52, 53, 54, 55, 56, 57, 58, 59, 60, 61, 62, 63, 64, 65, 66, 67, 68, 69, 70, 71, 72, 73, 74, 75, 76, 77, 78, 79, 80, 81, 82, 83, 84, 85, 86, 87, 88, 89, 90, 91, 92, 93, 94, 95, 96, 97, 98, 99, 100, 101, 102, 103, 104, 105, 106, 107, 172, 173, 174, 175, 176, 177, 178, 179, 180, 181, 182, 183, 184, 185, 186, 187, 188, 189, 190] (by decide +kernel) (by decide +kernel)
set_option maxRecDepth 20000 in
theorem gX1_readTape_X1_nextToken : GoodIn wsX1_readTape (wsV RX1 57 RX1 yX1_nextToken wsX1_nextToken) := goodIn_app (goodIn_of _ (by decide +kernel)) ggX1_readTape_X1_nextToken
set_option maxRecDepth 20000 in
theorem ggX1_readTape_X1_accepts : GoodIn wsX1_readTape wsX1_accepts := goodIn_r _ [111, 2, 112, 113, 114, 13, 115, 7, 116, 8, 9, 117, 118, 119, 120, 121, 122, 123, 124, 125, 126, 17, 127, 128, 129, 130, 131, 132, 133, 134, 3, 5, 4, 135, 136, 137, 138, 1, 15, 139, 140, 141, 142, 143, 144, 145, 146, 147, 6, 148, 149, 150, 151, 152, 102, 103, 104, 105, 106, 107, 153, 154, 155, 156, 157, 158, 159, 160, 161, 162, 163, 164, 165, 166, 167, 168, 169, 170, 171, 172, 173, 174, 175, 176, 177, 178, 179, 180, 181, 182, 183, 184, 185, 186, 187, 188] (by decide +kernel) (by decide +kernel)
set_option maxRecDepth 20000 in
theorem gX1_readTape_X1_accepts : GoodIn wsX1_readTape (wsV RX1 63 RX1 yX1_accepts wsX1_accepts) := goodIn_app (goodIn_of _ (by decide +kernel)) ggX1_readTape_X1_accepts
theorem dX1_readTape_0 : decode cX1_readTape 0 = .ok (.aload_n 0, 1) := by decide +kernel
theorem dX1_readTape_1 : decode cX1_readTape 1 = .ok (.iconst 0, 1) := by decide +kernel
theorem dX1_readTape_2 : decode cX1_readTape 2 = .ok (.putfield 31, 3) := by decide +kernel
theorem dX1_readTape_5 : decode cX1_readTape 5 = .ok (.aload_n 0, 1) := by decide +kernel
theorem dX1_readTape_6 : decode cX1_readTape 6 = .ok (.iconst 0, 1) := by decide +kernel
theorem dX1_readTape_7 : decode cX1_readTape 7 = .ok (.putfield 35, 3) := by decide +kernel
theorem dX1_readTape_10 : decode cX1_readTape 10 = .ok (.aload_n 0, 1) := by decide +kernel
theorem dX1_readTape_11 : decode cX1_readTape 11 = .ok (.iconst 0, 1) := by decide +kernel
theorem dX1_readTape_12 : decode cX1_readTape 12 = .ok (.putfield 38, 3) := by decide +kernel
theorem dX1_readTape_15 : decode cX1_readTape 15 = .ok (.aload_n 0, 1) := by decide +kernel
theorem dX1_readTape_16 : decode cX1_readTape 16 = .ok (.iconst 0, 1) := by decide +kernel
theorem dX1_readTape_17 : decode cX1_readTape 17 = .ok (.putfield 42, 3) := by decide +kernel
theorem dX1_readTape_20 : decode cX1_readTape 20 = .ok (.aload_n 0, 1) := by decide +kernel
theorem dX1_readTape_21 : decode cX1_readTape 21 = .ok (.iconst 0, 1) := by decide +kernel
theorem dX1_readTape_22 : decode cX1_readTape 22 = .ok (.putfield 45, 3) := by decide +kernel
theorem dX1_readTape_25 : decode cX1_readTape 25 = .ok (.aload_n 0, 1) := by decide +kernel
theorem dX1_readTape_26 : decode cX1_readTape 26 = .ok (.iconst 0, 1) := by decide +kernel
theorem dX1_readTape_27 : decode cX1_readTape 27 = .ok (.putfield 48, 3) := by decide +kernel
theorem dX1_readTape_30 : decode cX1_readTape 30 = .ok (.aload_n 0, 1) := by decide +kernel
theorem dX1_readTape_31 : decode cX1_readTape 31 = .ok (.iconst 0, 1) := by decide +kernel
theorem dX1_readTape_32 : decode cX1_readTape 32 = .ok (.putfield 51, 3) := by decide +kernel
theorem dX1_readTape_35 : decode cX1_readTape 35 = .ok (.aload_n 0, 1) := by decide +kernel
theorem dX1_readTape_36 : decode cX1_readTape 36 = .ok (.iconst 0, 1) := by decide +kernel
theorem dX1_readTape_37 : decode cX1_readTape 37 = .ok (.putfield 54, 3) := by decide +kernel
theorem dX1_readTape_40 : decode cX1_readTape 40 = .ok (.iconst 0, 1) := by decide +kernel
theorem dX1_readTape_41 : decode cX1_readTape 41 = .ok (.istore_n 1, 1) := by decide +kernel
theorem dX1_readTape_42 : decode cX1_readTape 42 = .ok (.iload_n 1, 1) := by decide +kernel
theorem dX1_readTape_43 : decode cX1_readTape 43 = .ok (.sipush 800, 3) := by decide +kernel
theorem dX1_readTape_46 : decode cX1_readTape 46 = .ok (.if_icmp .gt 50, 3) := by decide +kernel
theorem dX1_readTape_49 : decode cX1_readTape 49 = .ok (.aload_n 0, 1) := by decide +kernel
theorem dX1_readTape_50 : decode cX1_readTape 50 = .ok (.invokevirtual 57, 3) := by decide +kernel
theorem dX1_readTape_53 : decode cX1_readTape 53 = .ok (.aload_n 0, 1) := by decide +kernel
theorem dX1_readTape_54 : decode cX1_readTape 54 = .ok (.getfield 60, 3) := by decide +kernel
theorem dX1_readTape_57 : decode cX1_readTape 57 = .ok (.iconst (-1), 1) := by decide +kernel
theorem dX1_readTape_58 : decode cX1_readTape 58 = .ok (.if_icmp .ne 23, 3) := by decide +kernel
theorem dX1_readTape_61 : decode cX1_readTape 61 = .ok (.aload_n 0, 1) := by decide +kernel
theorem dX1_readTape_62 : decode cX1_readTape 62 = .ok (.getfield 35, 3) := by decide +kernel
theorem dX1_readTape_65 : decode cX1_readTape 65 = .ok (.ifCond .ne 14, 3) := by decide +kernel
theorem dX1_readTape_68 : decode cX1_readTape 68 = .ok (.aload_n 0, 1) := by decide +kernel
theorem dX1_readTape_69 : decode cX1_readTape 69 = .ok (.getfield 51, 3) := by decide +kernel
theorem dX1_readTape_72 : decode cX1_readTape 72 = .ok (.ifCond .le 7, 3) := by decide +kernel
theorem dX1_readTape_75 : decode cX1_readTape 75 = .ok (.iconst 1, 1) := by decide +kernel
theorem dX1_readTape_76 : decode cX1_readTape 76 = .ok (.goto 4, 3) := by decide +kernel
theorem dX1_readTape_79 : decode cX1_readTape 79 = .ok (.iconst 0, 1) := by decide +kernel
theorem dX1_readTape_80 : decode cX1_readTape 80 = .ok (.ireturn, 1) := by decide +kernel
theorem dX1_readTape_81 : decode cX1_readTape 81 = .ok (.aload_n 0, 1) := by decide +kernel
theorem dX1_readTape_82 : decode cX1_readTape 82 = .ok (.invokevirtual 63, 3) := by decide +kernel
theorem dX1_readTape_85 : decode cX1_readTape 85 = .ok (.ifCond .ne 5, 3) := by decide +kernel
theorem dX1_readTape_88 : decode cX1_readTape 88 = .ok (.iconst 0, 1) := by decide +kernel
theorem dX1_readTape_89 : decode cX1_readTape 89 = .ok (.ireturn, 1) := by decide +kernel
theorem dX1_readTape_90 : decode cX1_readTape 90 = .ok (.iinc 1 1, 3) := by decide +kernel
theorem dX1_readTape_93 : decode cX1_readTape 93 = .ok (.goto (-51), 3) := by decide +kernel
theorem dX1_readTape_96 : decode cX1_readTape 96 = .ok (.iconst 0, 1) := by decide +kernel
theorem dX1_readTape_97 : decode cX1_readTape 97 = .ok (.ireturn, 1) := by decide +kernel
set_option maxRecDepth 20000 in
theorem ggX1_lastText_J7_copyOf_59c91 : GoodIn wsX1_lastText wsJ7_copyOf_59c91 := goodIn_r _ [13, 14, 15, 16, 17, 18, 19, 20, 21, 22, 23, 24, 25, 26, 27, 28] (by decide +kernel) (by decide +kernel)
set_option maxRecDepth 20000 in
theorem gX1_lastText_J7_copyOf_59c91 : GoodIn wsX1_lastText (va_wsS RX1 69 yJ7_copyOf_59c91 wsJ7_copyOf_59c91) := goodIn_app (goodIn_of _ (by decide +kernel)) ggX1_lastText_J7_copyOf_59c91
set_option maxRecDepth 20000 in
theorem ggX1_lastText_X4_init : GoodIn wsX1_lastText wsX4_init := goodIn_r _ [30, 31, 32, 33, 34, 35, 36, 37, 38, 39, 40, 41] (by decide +kernel) (by decide +kernel)
set_option maxRecDepth 20000 in
theorem gX1_lastText_X4_init_n75 : GoodIn wsX1_lastText (wsX4_init) := ggX1_lastText_X4_init
theorem dX1_lastText_0 : decode cX1_lastText 0 = .ok (.new 67, 3) := by decide +kernel
theorem dX1_lastText_3 : decode cX1_lastText 3 = .ok (.dup, 1) := by decide +kernel
theorem dX1_lastText_4 : decode cX1_lastText 4 = .ok (.aload_n 0, 1) := by decide +kernel
theorem dX1_lastText_5 : decode cX1_lastText 5 = .ok (.getfield 15, 3) := by decide +kernel
theorem dX1_lastText_8 : decode cX1_lastText 8 = .ok (.aload_n 0, 1) := by decide +kernel
theorem dX1_lastText_9 : decode cX1_lastText 9 = .ok (.getfield 51, 3) := by decide +kernel
theorem dX1_lastText_12 : decode cX1_lastText 12 = .ok (.invokestatic 69, 3) := by decide +kernel
theorem dX1_lastText_15 : decode cX1_lastText 15 = .ok (.aload_n 0, 1) := by decide +kernel
theorem dX1_lastText_16 : decode cX1_lastText 16 = .ok (.getfield 18, 3) := by decide +kernel
theorem dX1_lastText_19 : decode cX1_lastText 19 = .ok (.aload_n 0, 1) := by decide +kernel
theorem dX1_lastText_20 : decode cX1_lastText 20 = .ok (.getfield 51, 3) := by decide +kernel
theorem dX1_lastText_23 : decode cX1_lastText 23 = .ok (.invokestatic 69, 3) := by decide +kernel
theorem dX1_lastText_26 : decode cX1_lastText 26 = .ok (.aload_n 0, 1) := by decide +kernel
theorem dX1_lastText_27 : decode cX1_lastText 27 = .ok (.getfield 21, 3) := by decide +kernel
theorem dX1_lastText_30 : decode cX1_lastText 30 = .ok (.aload_n 0, 1) := by decide +kernel
theorem dX1_lastText_31 : decode cX1_lastText 31 = .ok (.getfield 51, 3) := by decide +kernel
theorem dX1_lastText_34 : decode cX1_lastText 34 = .ok (.invokestatic 69, 3) := by decide +kernel
theorem dX1_lastText_37 : decode cX1_lastText 37 = .ok (.aload_n 0, 1) := by decide +kernel
theorem dX1_lastText_38 : decode cX1_lastText 38 = .ok (.getfield 24, 3) := by decide +kernel
theorem dX1_lastText_41 : decode cX1_lastText 41 = .ok (.aload_n 0, 1) := by decide +kernel
theorem dX1_lastText_42 : decode cX1_lastText 42 = .ok (.getfield 54, 3) := by decide +kernel
theorem dX1_lastText_45 : decode cX1_lastText 45 = .ok (.invokestatic 69, 3) := by decide +kernel
theorem dX1_lastText_48 : decode cX1_lastText 48 = .ok (.invokespecial 75, 3) := by decide +kernel
theorem dX1_lastText_51 : decode cX1_lastText 51 = .ok (.areturn, 1) := by decide +kernel
set_option maxRecDepth 20000 in
theorem ggX1_nextToken_X3_byteAt : GoodIn wsX1_nextToken wsX3_byteAt := goodIn_r _ [9, 10, 11, 114, 115] (by decide +kernel) (by decide +kernel)
set_option maxRecDepth 20000 in
theorem gX1_nextToken_X3_byteAt_n86 : GoodIn wsX1_nextToken (wsX3_byteAt) := ggX1_nextToken_X3_byteAt
set_option maxRecDepth 20000 in
theorem ggX1_nextToken_X1_isBlank : GoodIn wsX1_nextToken wsX1_isBlank := goodIn_r _ [15] (by decide +kernel) (by decide +kernel)
set_option maxRecDepth 20000 in
theorem gX1_nextToken_X1_isBlank : GoodIn wsX1_nextToken (va_wsS RX1 90 yX1_isBlank wsX1_isBlank) := goodIn_app (goodIn_of _ (by decide +kernel)) ggX1_nextToken_X1_isBlank
set_option maxRecDepth 20000 in
theorem ggX1_nextToken_X1_isLetter : GoodIn wsX1_nextToken wsX1_isLetter := goodIn_r _ [18] (by decide +kernel) (by decide +kernel)
set_option maxRecDepth 20000 in
theorem gX1_nextToken_X1_isLetter : GoodIn wsX1_nextToken (va_wsS RX1 94 yX1_isLetter wsX1_isLetter) := goodIn_app (goodIn_of _ (by decide +kernel)) ggX1_nextToken_X1_isLetter
set_option maxRecDepth 20000 in
theorem ggX1_nextToken_X1_wordAt : GoodIn wsX1_nextToken wsX1_wordAt := goodIn_r _ [22, 23, 24, 25, 26, 27, 28, 29, 30, 31, 32, 33, 34, 35, 36, 37, 14, 38, 3, 6, 7, 8, 9, 10, 11, 39, 40, 41, 42, 43, 44, 45, 46, 47, 48, 49, 50, 51, 52, 53, 54, 55, 56, 57, 58, 59, 60, 61, 62, 63, 64, 65, 66, 67, 68, 69, 70, 71, 72, 73, 74, 75, 97, 98, 99, 100, 101, 102, 103, 104, 105, 106, 107, 108, 109, 110, 111, 112, 113, 114, 115] (by decide +kernel) (by decide +kernel)
set_option maxRecDepth 20000 in
theorem gX1_nextToken_X1_wordAt : GoodIn wsX1_nextToken (wsV RX1 97 RX1 yX1_wordAt wsX1_wordAt) := goodIn_app (goodIn_of _ (by decide +kernel)) ggX1_nextToken_X1_wordAt
set_option maxRecDepth 20000 in
theorem ggX1_nextToken_X1_isDigit : GoodIn wsX1_nextToken wsX1_isDigit := goodIn_r _ [78] (by decide +kernel) (by decide +kernel)
set_option maxRecDepth 20000 in
theorem gX1_nextToken_X1_isDigit : GoodIn wsX1_nextToken (va_wsS RX1 101 yX1_isDigit wsX1_isDigit) := goodIn_app (goodIn_of _ (by decide +kernel)) ggX1_nextToken_X1_isDigit
set_option maxRecDepth 20000 in
theorem ggX1_nextToken_X1_numberAt : GoodIn wsX1_nextToken wsX1_numberAt := goodIn_r _ [82, 3, 83, 84, 85, 86, 87, 6, 7, 8, 9, 10, 11, 97, 98, 99, 100, 101, 102, 103, 104, 105, 106, 107, 108, 109, 110, 111, 112, 113, 114, 115] (by decide +kernel) (by decide +kernel)
set_option maxRecDepth 20000 in
theorem gX1_nextToken_X1_numberAt : GoodIn wsX1_nextToken (wsV RX1 104 RX1 yX1_numberAt wsX1_numberAt) := goodIn_app (goodIn_of _ (by decide +kernel)) ggX1_nextToken_X1_numberAt
set_option maxRecDepth 20000 in
theorem ggX1_nextToken_X1_isSign : GoodIn wsX1_nextToken wsX1_isSign := goodIn_r _ [90, 91, 92, 14, 93, 94, 95, 96] (by decide +kernel) (by decide +kernel)
set_option maxRecDepth 20000 in
theorem gX1_nextToken_X1_isSign : GoodIn wsX1_nextToken (va_wsS RX1 110 yX1_isSign wsX1_isSign) := goodIn_app (goodIn_of _ (by decide +kernel)) ggX1_nextToken_X1_isSign
theorem dX1_nextToken_0 : decode cX1_nextToken 0 = .ok (.aload_n 0, 1) := by decide +kernel
theorem dX1_nextToken_1 : decode cX1_nextToken 1 = .ok (.aload_n 0, 1) := by decide +kernel
theorem dX1_nextToken_2 : decode cX1_nextToken 2 = .ok (.getfield 31, 3) := by decide +kernel
theorem dX1_nextToken_5 : decode cX1_nextToken 5 = .ok (.putfield 78, 3) := by decide +kernel
theorem dX1_nextToken_8 : decode cX1_nextToken 8 = .ok (.aload_n 0, 1) := by decide +kernel
theorem dX1_nextToken_9 : decode cX1_nextToken 9 = .ok (.getfield 78, 3) := by decide +kernel
theorem dX1_nextToken_12 : decode cX1_nextToken 12 = .ok (.aload_n 0, 1) := by decide +kernel
theorem dX1_nextToken_13 : decode cX1_nextToken 13 = .ok (.getfield 27, 3) := by decide +kernel
theorem dX1_nextToken_16 : decode cX1_nextToken 16 = .ok (.getfield 81, 3) := by decide +kernel
theorem dX1_nextToken_19 : decode cX1_nextToken 19 = .ok (.if_icmp .ge 33, 3) := by decide +kernel
theorem dX1_nextToken_22 : decode cX1_nextToken 22 = .ok (.aload_n 0, 1) := by decide +kernel
theorem dX1_nextToken_23 : decode cX1_nextToken 23 = .ok (.getfield 27, 3) := by decide +kernel
theorem dX1_nextToken_26 : decode cX1_nextToken 26 = .ok (.aload_n 0, 1) := by decide +kernel
theorem dX1_nextToken_27 : decode cX1_nextToken 27 = .ok (.getfield 78, 3) := by decide +kernel
theorem dX1_nextToken_30 : decode cX1_nextToken 30 = .ok (.invokevirtual 86, 3) := by decide +kernel
theorem dX1_nextToken_33 : decode cX1_nextToken 33 = .ok (.invokestatic 90, 3) := by decide +kernel
theorem dX1_nextToken_36 : decode cX1_nextToken 36 = .ok (.ifCond .eq 16, 3) := by decide +kernel
theorem dX1_nextToken_39 : decode cX1_nextToken 39 = .ok (.aload_n 0, 1) := by decide +kernel
theorem dX1_nextToken_40 : decode cX1_nextToken 40 = .ok (.dup, 1) := by decide +kernel
theorem dX1_nextToken_41 : decode cX1_nextToken 41 = .ok (.getfield 78, 3) := by decide +kernel
theorem dX1_nextToken_44 : decode cX1_nextToken 44 = .ok (.iconst 1, 1) := by decide +kernel
theorem dX1_nextToken_45 : decode cX1_nextToken 45 = .ok (.iadd, 1) := by decide +kernel
theorem dX1_nextToken_46 : decode cX1_nextToken 46 = .ok (.putfield 78, 3) := by decide +kernel
theorem dX1_nextToken_49 : decode cX1_nextToken 49 = .ok (.goto (-41), 3) := by decide +kernel
theorem dX1_nextToken_52 : decode cX1_nextToken 52 = .ok (.aload_n 0, 1) := by decide +kernel
theorem dX1_nextToken_53 : decode cX1_nextToken 53 = .ok (.getfield 27, 3) := by decide +kernel
theorem dX1_nextToken_56 : decode cX1_nextToken 56 = .ok (.aload_n 0, 1) := by decide +kernel
theorem dX1_nextToken_57 : decode cX1_nextToken 57 = .ok (.getfield 78, 3) := by decide +kernel
theorem dX1_nextToken_60 : decode cX1_nextToken 60 = .ok (.invokevirtual 86, 3) := by decide +kernel
theorem dX1_nextToken_63 : decode cX1_nextToken 63 = .ok (.istore_n 1, 1) := by decide +kernel
theorem dX1_nextToken_64 : decode cX1_nextToken 64 = .ok (.aload_n 0, 1) := by decide +kernel
theorem dX1_nextToken_65 : decode cX1_nextToken 65 = .ok (.aload_n 0, 1) := by decide +kernel
theorem dX1_nextToken_66 : decode cX1_nextToken 66 = .ok (.getfield 78, 3) := by decide +kernel
theorem dX1_nextToken_69 : decode cX1_nextToken 69 = .ok (.iconst 1, 1) := by decide +kernel
theorem dX1_nextToken_70 : decode cX1_nextToken 70 = .ok (.iadd, 1) := by decide +kernel
theorem dX1_nextToken_71 : decode cX1_nextToken 71 = .ok (.putfield 31, 3) := by decide +kernel
theorem dX1_nextToken_74 : decode cX1_nextToken 74 = .ok (.iload_n 1, 1) := by decide +kernel
theorem dX1_nextToken_75 : decode cX1_nextToken 75 = .ok (.invokestatic 94, 3) := by decide +kernel
theorem dX1_nextToken_78 : decode cX1_nextToken 78 = .ok (.ifCond .eq 66, 3) := by decide +kernel
theorem dX1_nextToken_81 : decode cX1_nextToken 81 = .ok (.aload_n 0, 1) := by decide +kernel
theorem dX1_nextToken_82 : decode cX1_nextToken 82 = .ok (.getfield 31, 3) := by decide +kernel
theorem dX1_nextToken_85 : decode cX1_nextToken 85 = .ok (.aload_n 0, 1) := by decide +kernel
theorem dX1_nextToken_86 : decode cX1_nextToken 86 = .ok (.getfield 27, 3) := by decide +kernel
theorem dX1_nextToken_89 : decode cX1_nextToken 89 = .ok (.getfield 81, 3) := by decide +kernel
theorem dX1_nextToken_92 : decode cX1_nextToken 92 = .ok (.if_icmp .ge 33, 3) := by decide +kernel
theorem dX1_nextToken_95 : decode cX1_nextToken 95 = .ok (.aload_n 0, 1) := by decide +kernel
theorem dX1_nextToken_96 : decode cX1_nextToken 96 = .ok (.getfield 27, 3) := by decide +kernel
theorem dX1_nextToken_99 : decode cX1_nextToken 99 = .ok (.aload_n 0, 1) := by decide +kernel
theorem dX1_nextToken_100 : decode cX1_nextToken 100 = .ok (.getfield 31, 3) := by decide +kernel
theorem dX1_nextToken_103 : decode cX1_nextToken 103 = .ok (.invokevirtual 86, 3) := by decide +kernel
theorem dX1_nextToken_106 : decode cX1_nextToken 106 = .ok (.invokestatic 94, 3) := by decide +kernel
theorem dX1_nextToken_109 : decode cX1_nextToken 109 = .ok (.ifCond .eq 16, 3) := by decide +kernel
theorem dX1_nextToken_112 : decode cX1_nextToken 112 = .ok (.aload_n 0, 1) := by decide +kernel
theorem dX1_nextToken_113 : decode cX1_nextToken 113 = .ok (.dup, 1) := by decide +kernel
theorem dX1_nextToken_114 : decode cX1_nextToken 114 = .ok (.getfield 31, 3) := by decide +kernel
theorem dX1_nextToken_117 : decode cX1_nextToken 117 = .ok (.iconst 1, 1) := by decide +kernel
theorem dX1_nextToken_118 : decode cX1_nextToken 118 = .ok (.iadd, 1) := by decide +kernel
theorem dX1_nextToken_119 : decode cX1_nextToken 119 = .ok (.putfield 31, 3) := by decide +kernel
theorem dX1_nextToken_122 : decode cX1_nextToken 122 = .ok (.goto (-41), 3) := by decide +kernel
theorem dX1_nextToken_125 : decode cX1_nextToken 125 = .ok (.aload_n 0, 1) := by decide +kernel
theorem dX1_nextToken_126 : decode cX1_nextToken 126 = .ok (.aload_n 0, 1) := by decide +kernel
theorem dX1_nextToken_127 : decode cX1_nextToken 127 = .ok (.aload_n 0, 1) := by decide +kernel
theorem dX1_nextToken_128 : decode cX1_nextToken 128 = .ok (.getfield 78, 3) := by decide +kernel
theorem dX1_nextToken_131 : decode cX1_nextToken 131 = .ok (.aload_n 0, 1) := by decide +kernel
theorem dX1_nextToken_132 : decode cX1_nextToken 132 = .ok (.getfield 31, 3) := by decide +kernel
theorem dX1_nextToken_135 : decode cX1_nextToken 135 = .ok (.invokevirtual 97, 3) := by decide +kernel
theorem dX1_nextToken_138 : decode cX1_nextToken 138 = .ok (.putfield 60, 3) := by decide +kernel
theorem dX1_nextToken_141 : decode cX1_nextToken 141 = .ok (.goto 101, 3) := by decide +kernel
theorem dX1_nextToken_144 : decode cX1_nextToken 144 = .ok (.iload_n 1, 1) := by decide +kernel
theorem dX1_nextToken_145 : decode cX1_nextToken 145 = .ok (.invokestatic 101, 3) := by decide +kernel
theorem dX1_nextToken_148 : decode cX1_nextToken 148 = .ok (.ifCond .eq 72, 3) := by decide +kernel
theorem dX1_nextToken_151 : decode cX1_nextToken 151 = .ok (.aload_n 0, 1) := by decide +kernel
theorem dX1_nextToken_152 : decode cX1_nextToken 152 = .ok (.getfield 31, 3) := by decide +kernel
theorem dX1_nextToken_155 : decode cX1_nextToken 155 = .ok (.aload_n 0, 1) := by decide +kernel
theorem dX1_nextToken_156 : decode cX1_nextToken 156 = .ok (.getfield 27, 3) := by decide +kernel
theorem dX1_nextToken_159 : decode cX1_nextToken 159 = .ok (.getfield 81, 3) := by decide +kernel
theorem dX1_nextToken_162 : decode cX1_nextToken 162 = .ok (.if_icmp .ge 33, 3) := by decide +kernel
theorem dX1_nextToken_165 : decode cX1_nextToken 165 = .ok (.aload_n 0, 1) := by decide +kernel
theorem dX1_nextToken_166 : decode cX1_nextToken 166 = .ok (.getfield 27, 3) := by decide +kernel
theorem dX1_nextToken_169 : decode cX1_nextToken 169 = .ok (.aload_n 0, 1) := by decide +kernel
theorem dX1_nextToken_170 : decode cX1_nextToken 170 = .ok (.getfield 31, 3) := by decide +kernel
theorem dX1_nextToken_173 : decode cX1_nextToken 173 = .ok (.invokevirtual 86, 3) := by decide +kernel
theorem dX1_nextToken_176 : decode cX1_nextToken 176 = .ok (.invokestatic 101, 3) := by decide +kernel
theorem dX1_nextToken_179 : decode cX1_nextToken 179 = .ok (.ifCond .eq 16, 3) := by decide +kernel
theorem dX1_nextToken_182 : decode cX1_nextToken 182 = .ok (.aload_n 0, 1) := by decide +kernel
theorem dX1_nextToken_183 : decode cX1_nextToken 183 = .ok (.dup, 1) := by decide +kernel
theorem dX1_nextToken_184 : decode cX1_nextToken 184 = .ok (.getfield 31, 3) := by decide +kernel
theorem dX1_nextToken_187 : decode cX1_nextToken 187 = .ok (.iconst 1, 1) := by decide +kernel
theorem dX1_nextToken_188 : decode cX1_nextToken 188 = .ok (.iadd, 1) := by decide +kernel
theorem dX1_nextToken_189 : decode cX1_nextToken 189 = .ok (.putfield 31, 3) := by decide +kernel
theorem dX1_nextToken_192 : decode cX1_nextToken 192 = .ok (.goto (-41), 3) := by decide +kernel
theorem dX1_nextToken_195 : decode cX1_nextToken 195 = .ok (.aload_n 0, 1) := by decide +kernel
theorem dX1_nextToken_196 : decode cX1_nextToken 196 = .ok (.bipush 30, 2) := by decide +kernel
theorem dX1_nextToken_198 : decode cX1_nextToken 198 = .ok (.putfield 60, 3) := by decide +kernel
theorem dX1_nextToken_201 : decode cX1_nextToken 201 = .ok (.aload_n 0, 1) := by decide +kernel
theorem dX1_nextToken_202 : decode cX1_nextToken 202 = .ok (.aload_n 0, 1) := by decide +kernel
theorem dX1_nextToken_203 : decode cX1_nextToken 203 = .ok (.aload_n 0, 1) := by decide +kernel
theorem dX1_nextToken_204 : decode cX1_nextToken 204 = .ok (.getfield 78, 3) := by decide +kernel
theorem dX1_nextToken_207 : decode cX1_nextToken 207 = .ok (.aload_n 0, 1) := by decide +kernel
theorem dX1_nextToken_208 : decode cX1_nextToken 208 = .ok (.getfield 31, 3) := by decide +kernel
theorem dX1_nextToken_211 : decode cX1_nextToken 211 = .ok (.invokevirtual 104, 3) := by decide +kernel
theorem dX1_nextToken_214 : decode cX1_nextToken 214 = .ok (.putfield 107, 3) := by decide +kernel
theorem dX1_nextToken_217 : decode cX1_nextToken 217 = .ok (.goto 25, 3) := by decide +kernel
theorem dX1_nextToken_220 : decode cX1_nextToken 220 = .ok (.aload_n 0, 1) := by decide +kernel
theorem dX1_nextToken_221 : decode cX1_nextToken 221 = .ok (.iload_n 1, 1) := by decide +kernel
theorem dX1_nextToken_222 : decode cX1_nextToken 222 = .ok (.iconst (-1), 1) := by decide +kernel
theorem dX1_nextToken_223 : decode cX1_nextToken 223 = .ok (.if_icmp .eq 10, 3) := by decide +kernel
theorem dX1_nextToken_226 : decode cX1_nextToken 226 = .ok (.iload_n 1, 1) := by decide +kernel
theorem dX1_nextToken_227 : decode cX1_nextToken 227 = .ok (.invokestatic 110, 3) := by decide +kernel
theorem dX1_nextToken_230 : decode cX1_nextToken 230 = .ok (.ifCond .eq 7, 3) := by decide +kernel
theorem dX1_nextToken_233 : decode cX1_nextToken 233 = .ok (.iload_n 1, 1) := by decide +kernel
theorem dX1_nextToken_234 : decode cX1_nextToken 234 = .ok (.goto 5, 3) := by decide +kernel
theorem dX1_nextToken_237 : decode cX1_nextToken 237 = .ok (.bipush (-2), 2) := by decide +kernel
theorem dX1_nextToken_239 : decode cX1_nextToken 239 = .ok (.putfield 60, 3) := by decide +kernel
theorem dX1_nextToken_242 : decode cX1_nextToken 242 = .ok (.return_, 1) := by decide +kernel
theorem dX1_isBlank_0 : decode cX1_isBlank 0 = .ok (.iload_n 0, 1) := by decide +kernel
theorem dX1_isBlank_1 : decode cX1_isBlank 1 = .ok (.bipush 32, 2) := by decide +kernel
theorem dX1_isBlank_3 : decode cX1_isBlank 3 = .ok (.if_icmp .eq 9, 3) := by decide +kernel
theorem dX1_isBlank_6 : decode cX1_isBlank 6 = .ok (.iload_n 0, 1) := by decide +kernel
theorem dX1_isBlank_7 : decode cX1_isBlank 7 = .ok (.bipush 10, 2) := by decide +kernel
theorem dX1_isBlank_9 : decode cX1_isBlank 9 = .ok (.if_icmp .ne 7, 3) := by decide +kernel
theorem dX1_isBlank_12 : decode cX1_isBlank 12 = .ok (.iconst 1, 1) := by decide +kernel
theorem dX1_isBlank_13 : decode cX1_isBlank 13 = .ok (.goto 4, 3) := by decide +kernel
theorem dX1_isBlank_16 : decode cX1_isBlank 16 = .ok (.iconst 0, 1) := by decide +kernel
theorem dX1_isBlank_17 : decode cX1_isBlank 17 = .ok (.ireturn, 1) := by decide +kernel
theorem dX1_isLetter_0 : decode cX1_isLetter 0 = .ok (.iload_n 0, 1) := by decide +kernel
theorem dX1_isLetter_1 : decode cX1_isLetter 1 = .ok (.bipush 97, 2) := by decide +kernel
theorem dX1_isLetter_3 : decode cX1_isLetter 3 = .ok (.if_icmp .lt 13, 3) := by decide +kernel
theorem dX1_isLetter_6 : decode cX1_isLetter 6 = .ok (.iload_n 0, 1) := by decide +kernel
theorem dX1_isLetter_7 : decode cX1_isLetter 7 = .ok (.bipush 122, 2) := by decide +kernel
theorem dX1_isLetter_9 : decode cX1_isLetter 9 = .ok (.if_icmp .gt 7, 3) := by decide +kernel
theorem dX1_isLetter_12 : decode cX1_isLetter 12 = .ok (.iconst 1, 1) := by decide +kernel
theorem dX1_isLetter_13 : decode cX1_isLetter 13 = .ok (.goto 4, 3) := by decide +kernel
theorem dX1_isLetter_16 : decode cX1_isLetter 16 = .ok (.iconst 0, 1) := by decide +kernel
theorem dX1_isLetter_17 : decode cX1_isLetter 17 = .ok (.ireturn, 1) := by decide +kernel
theorem dX1_isDigit_0 : decode cX1_isDigit 0 = .ok (.iload_n 0, 1) := by decide +kernel
theorem dX1_isDigit_1 : decode cX1_isDigit 1 = .ok (.bipush 48, 2) := by decide +kernel
theorem dX1_isDigit_3 : decode cX1_isDigit 3 = .ok (.if_icmp .lt 13, 3) := by decide +kernel
theorem dX1_isDigit_6 : decode cX1_isDigit 6 = .ok (.iload_n 0, 1) := by decide +kernel
theorem dX1_isDigit_7 : decode cX1_isDigit 7 = .ok (.bipush 57, 2) := by decide +kernel
theorem dX1_isDigit_9 : decode cX1_isDigit 9 = .ok (.if_icmp .gt 7, 3) := by decide +kernel
theorem dX1_isDigit_12 : decode cX1_isDigit 12 = .ok (.iconst 1, 1) := by decide +kernel
theorem dX1_isDigit_13 : decode cX1_isDigit 13 = .ok (.goto 4, 3) := by decide +kernel
theorem dX1_isDigit_16 : decode cX1_isDigit 16 = .ok (.iconst 0, 1) := by decide +kernel
theorem dX1_isDigit_17 : decode cX1_isDigit 17 = .ok (.ireturn, 1) := by decide +kernel
set_option maxRecDepth 20000 in
theorem ggX1_isSign_X1_isRelation : GoodIn wsX1_isSign wsX1_isRelation := goodIn_r _ [4] (by decide +kernel) (by decide +kernel)
set_option maxRecDepth 20000 in
theorem gX1_isSign_X1_isRelation : GoodIn wsX1_isSign (va_wsS RX1 113 yX1_isRelation wsX1_isRelation) := goodIn_app (goodIn_of _ (by decide +kernel)) ggX1_isSign_X1_isRelation
set_option maxRecDepth 20000 in
theorem ggX1_isSign_X1_isReckoning : GoodIn wsX1_isSign wsX1_isReckoning := goodIn_r _ [7] (by decide +kernel) (by decide +kernel)
set_option maxRecDepth 20000 in
theorem gX1_isSign_X1_isReckoning : GoodIn wsX1_isSign (va_wsS RX1 116 yX1_isReckoning wsX1_isReckoning) := goodIn_app (goodIn_of _ (by decide +kernel)) ggX1_isSign_X1_isReckoning
theorem dX1_isSign_0 : decode cX1_isSign 0 = .ok (.iload_n 0, 1) := by decide +kernel
theorem dX1_isSign_1 : decode cX1_isSign 1 = .ok (.bipush 59, 2) := by decide +kernel
theorem dX1_isSign_3 : decode cX1_isSign 3 = .ok (.if_icmp .eq 29, 3) := by decide +kernel
theorem dX1_isSign_6 : decode cX1_isSign 6 = .ok (.iload_n 0, 1) := by decide +kernel
theorem dX1_isSign_7 : decode cX1_isSign 7 = .ok (.bipush 40, 2) := by decide +kernel
theorem dX1_isSign_9 : decode cX1_isSign 9 = .ok (.if_icmp .eq 23, 3) := by decide +kernel
theorem dX1_isSign_12 : decode cX1_isSign 12 = .ok (.iload_n 0, 1) := by decide +kernel
theorem dX1_isSign_13 : decode cX1_isSign 13 = .ok (.bipush 41, 2) := by decide +kernel
theorem dX1_isSign_15 : decode cX1_isSign 15 = .ok (.if_icmp .eq 17, 3) := by decide +kernel
theorem dX1_isSign_18 : decode cX1_isSign 18 = .ok (.iload_n 0, 1) := by decide +kernel
theorem dX1_isSign_19 : decode cX1_isSign 19 = .ok (.invokestatic 113, 3) := by decide +kernel
theorem dX1_isSign_22 : decode cX1_isSign 22 = .ok (.ifCond .ne 10, 3) := by decide +kernel
theorem dX1_isSign_25 : decode cX1_isSign 25 = .ok (.iload_n 0, 1) := by decide +kernel
theorem dX1_isSign_26 : decode cX1_isSign 26 = .ok (.invokestatic 116, 3) := by decide +kernel
theorem dX1_isSign_29 : decode cX1_isSign 29 = .ok (.ifCond .eq 7, 3) := by decide +kernel
theorem dX1_isSign_32 : decode cX1_isSign 32 = .ok (.iconst 1, 1) := by decide +kernel
theorem dX1_isSign_33 : decode cX1_isSign 33 = .ok (.goto 4, 3) := by decide +kernel
theorem dX1_isSign_36 : decode cX1_isSign 36 = .ok (.iconst 0, 1) := by decide +kernel
theorem dX1_isSign_37 : decode cX1_isSign 37 = .ok (.ireturn, 1) := by decide +kernel
theorem dX1_isRelation_0 : decode cX1_isRelation 0 = .ok (.iload_n 0, 1) := by decide +kernel
theorem dX1_isRelation_1 : decode cX1_isRelation 1 = .ok (.bipush 60, 2) := by decide +kernel
theorem dX1_isRelation_3 : decode cX1_isRelation 3 = .ok (.if_icmp .eq 15, 3) := by decide +kernel
theorem dX1_isRelation_6 : decode cX1_isRelation 6 = .ok (.iload_n 0, 1) := by decide +kernel
theorem dX1_isRelation_7 : decode cX1_isRelation 7 = .ok (.bipush 61, 2) := by decide +kernel
theorem dX1_isRelation_9 : decode cX1_isRelation 9 = .ok (.if_icmp .eq 9, 3) := by decide +kernel
theorem dX1_isRelation_12 : decode cX1_isRelation 12 = .ok (.iload_n 0, 1) := by decide +kernel
theorem dX1_isRelation_13 : decode cX1_isRelation 13 = .ok (.bipush 62, 2) := by decide +kernel
theorem dX1_isRelation_15 : decode cX1_isRelation 15 = .ok (.if_icmp .ne 7, 3) := by decide +kernel
theorem dX1_isRelation_18 : decode cX1_isRelation 18 = .ok (.iconst 1, 1) := by decide +kernel
theorem dX1_isRelation_19 : decode cX1_isRelation 19 = .ok (.goto 4, 3) := by decide +kernel
theorem dX1_isRelation_22 : decode cX1_isRelation 22 = .ok (.iconst 0, 1) := by decide +kernel
theorem dX1_isRelation_23 : decode cX1_isRelation 23 = .ok (.ireturn, 1) := by decide +kernel
theorem dX1_isReckoning_0 : decode cX1_isReckoning 0 = .ok (.iload_n 0, 1) := by decide +kernel
theorem dX1_isReckoning_1 : decode cX1_isReckoning 1 = .ok (.bipush 43, 2) := by decide +kernel
theorem dX1_isReckoning_3 : decode cX1_isReckoning 3 = .ok (.if_icmp .eq 15, 3) := by decide +kernel
theorem dX1_isReckoning_6 : decode cX1_isReckoning 6 = .ok (.iload_n 0, 1) := by decide +kernel
theorem dX1_isReckoning_7 : decode cX1_isReckoning 7 = .ok (.bipush 45, 2) := by decide +kernel
theorem dX1_isReckoning_9 : decode cX1_isReckoning 9 = .ok (.if_icmp .eq 9, 3) := by decide +kernel
theorem dX1_isReckoning_12 : decode cX1_isReckoning 12 = .ok (.iload_n 0, 1) := by decide +kernel
theorem dX1_isReckoning_13 : decode cX1_isReckoning 13 = .ok (.bipush 42, 2) := by decide +kernel
theorem dX1_isReckoning_15 : decode cX1_isReckoning 15 = .ok (.if_icmp .ne 7, 3) := by decide +kernel
theorem dX1_isReckoning_18 : decode cX1_isReckoning 18 = .ok (.iconst 1, 1) := by decide +kernel
theorem dX1_isReckoning_19 : decode cX1_isReckoning 19 = .ok (.goto 4, 3) := by decide +kernel
theorem dX1_isReckoning_22 : decode cX1_isReckoning 22 = .ok (.iconst 0, 1) := by decide +kernel
theorem dX1_isReckoning_23 : decode cX1_isReckoning 23 = .ok (.ireturn, 1) := by decide +kernel
set_option maxRecDepth 20000 in
theorem ggX1_wordAt_J0_length_8abf5 : GoodIn wsX1_wordAt wsJ0_length_8abf5 := goodIn_r _ [5, 6, 7, 8, 9, 4, 10, 11, 12] (by decide +kernel) (by decide +kernel)
set_option maxRecDepth 20000 in
theorem gX1_wordAt_J0_length_8abf5 : GoodIn wsX1_wordAt (wsV RX1 121 RJ0 yJ0_length_8abf5 wsJ0_length_8abf5) := goodIn_app (goodIn_of _ (by decide +kernel)) ggX1_wordAt_J0_length_8abf5
set_option maxRecDepth 20000 in
theorem ggX1_wordAt_X1_isWord : GoodIn wsX1_wordAt wsX1_isWord := goodIn_r _ [17, 18, 1, 2, 3, 4, 5, 6, 7, 8, 9, 10, 11, 12, 19, 20, 21, 22, 23, 24, 25, 26, 27, 28, 29, 30, 31, 32, 33, 34, 35, 36, 37, 38, 39, 40, 41, 42, 43, 44, 45, 46, 47, 48, 49, 50, 51, 52, 53, 54, 55, 56, 57, 58, 59, 60, 61, 62, 63, 64, 65, 66, 67, 68, 69, 70, 71, 72, 73, 74, 75, 76, 77, 78, 79, 80] (by decide +kernel) (by decide +kernel)
set_option maxRecDepth 20000 in
theorem gX1_wordAt_X1_isWord : GoodIn wsX1_wordAt (wsV RX1 126 RX1 yX1_isWord wsX1_isWord) := goodIn_app (goodIn_of _ (by decide +kernel)) ggX1_wordAt_X1_isWord
theorem dX1_wordAt_0 : decode cX1_wordAt 0 = .ok (.iconst 0, 1) := by decide +kernel
theorem dX1_wordAt_1 : decode cX1_wordAt 1 = .ok (.istore_n 3, 1) := by decide +kernel
theorem dX1_wordAt_2 : decode cX1_wordAt 2 = .ok (.iload_n 3, 1) := by decide +kernel
theorem dX1_wordAt_3 : decode cX1_wordAt 3 = .ok (.iconst 1, 1) := by decide +kernel
theorem dX1_wordAt_4 : decode cX1_wordAt 4 = .ok (.iadd, 1) := by decide +kernel
theorem dX1_wordAt_5 : decode cX1_wordAt 5 = .ok (.bipush 8, 2) := by decide +kernel
theorem dX1_wordAt_7 : decode cX1_wordAt 7 = .ok (.imul, 1) := by decide +kernel
theorem dX1_wordAt_8 : decode cX1_wordAt 8 = .ok (.ldc 119, 2) := by decide +kernel
theorem dX1_wordAt_10 : decode cX1_wordAt 10 = .ok (.invokevirtual 121, 3) := by decide +kernel
theorem dX1_wordAt_13 : decode cX1_wordAt 13 = .ok (.if_icmp .gt 24, 3) := by decide +kernel
theorem dX1_wordAt_16 : decode cX1_wordAt 16 = .ok (.aload_n 0, 1) := by decide +kernel
theorem dX1_wordAt_17 : decode cX1_wordAt 17 = .ok (.iload_n 3, 1) := by decide +kernel
theorem dX1_wordAt_18 : decode cX1_wordAt 18 = .ok (.bipush 8, 2) := by decide +kernel
theorem dX1_wordAt_20 : decode cX1_wordAt 20 = .ok (.imul, 1) := by decide +kernel
theorem dX1_wordAt_21 : decode cX1_wordAt 21 = .ok (.iload_n 1, 1) := by decide +kernel
theorem dX1_wordAt_22 : decode cX1_wordAt 22 = .ok (.iload_n 2, 1) := by decide +kernel
theorem dX1_wordAt_23 : decode cX1_wordAt 23 = .ok (.invokevirtual 126, 3) := by decide +kernel
theorem dX1_wordAt_26 : decode cX1_wordAt 26 = .ok (.ifCond .eq 5, 3) := by decide +kernel
theorem dX1_wordAt_29 : decode cX1_wordAt 29 = .ok (.iload_n 3, 1) := by decide +kernel
theorem dX1_wordAt_30 : decode cX1_wordAt 30 = .ok (.ireturn, 1) := by decide +kernel
theorem dX1_wordAt_31 : decode cX1_wordAt 31 = .ok (.iinc 3 1, 3) := by decide +kernel
theorem dX1_wordAt_34 : decode cX1_wordAt 34 = .ok (.goto (-32), 3) := by decide +kernel
theorem dX1_wordAt_37 : decode cX1_wordAt 37 = .ok (.bipush (-2), 2) := by decide +kernel
theorem dX1_wordAt_39 : decode cX1_wordAt 39 = .ok (.ireturn, 1) := by decide +kernel
set_option maxRecDepth 20000 in
theorem ggX1_isWord_J0_length_8abf5 : GoodIn wsX1_isWord wsJ0_length_8abf5 := goodIn_r _ [6, 7, 8, 9, 10, 5, 11, 12, 13] (by decide +kernel) (by decide +kernel)
set_option maxRecDepth 20000 in
theorem gX1_isWord_J0_length_8abf5 : GoodIn wsX1_isWord (wsV RX1 121 RJ0 yJ0_length_8abf5 wsJ0_length_8abf5) := goodIn_app (goodIn_of _ (by decide +kernel)) ggX1_isWord_J0_length_8abf5
set_option maxRecDepth 20000 in
theorem ggX1_isWord_X3_byteAt : GoodIn wsX1_isWord wsX3_byteAt := goodIn_r _ [17, 18, 19, 74, 75] (by decide +kernel) (by decide +kernel)
set_option maxRecDepth 20000 in
theorem gX1_isWord_X3_byteAt_n86 : GoodIn wsX1_isWord (wsX3_byteAt) := ggX1_isWord_X3_byteAt
set_option maxRecDepth 20000 in
theorem ggX1_isWord_J0_charAt_5068e : GoodIn wsX1_isWord wsJ0_charAt_5068e := goodIn_r _ [23, 7, 24, 25, 26, 5, 27, 12, 13, 28, 29, 30, 31, 32, 33, 34, 35, 36, 37, 38, 39, 40, 41, 42, 43, 44, 45, 46, 47, 48, 49, 50, 51, 52, 53, 54, 55, 56] (by decide +kernel) (by decide +kernel)
set_option maxRecDepth 20000 in
theorem gX1_isWord_J0_charAt_5068e : GoodIn wsX1_isWord (wsV RX1 130 RJ0 yJ0_charAt_5068e wsJ0_charAt_5068e) := goodIn_app (goodIn_of _ (by decide +kernel)) ggX1_isWord_J0_charAt_5068e
theorem dX1_isWord_0 : decode cX1_isWord 0 = .ok (.iload_n 1, 1) := by decide +kernel
theorem dX1_isWord_1 : decode cX1_isWord 1 = .ok (.ifCond .lt 23, 3) := by decide +kernel
theorem dX1_isWord_4 : decode cX1_isWord 4 = .ok (.iload_n 1, 1) := by decide +kernel
theorem dX1_isWord_5 : decode cX1_isWord 5 = .ok (.bipush 8, 2) := by decide +kernel
theorem dX1_isWord_7 : decode cX1_isWord 7 = .ok (.iadd, 1) := by decide +kernel
theorem dX1_isWord_8 : decode cX1_isWord 8 = .ok (.ldc 119, 2) := by decide +kernel
theorem dX1_isWord_10 : decode cX1_isWord 10 = .ok (.invokevirtual 121, 3) := by decide +kernel
theorem dX1_isWord_13 : decode cX1_isWord 13 = .ok (.if_icmp .gt 11, 3) := by decide +kernel
theorem dX1_isWord_16 : decode cX1_isWord 16 = .ok (.iload_n 3, 1) := by decide +kernel
theorem dX1_isWord_17 : decode cX1_isWord 17 = .ok (.iload_n 2, 1) := by decide +kernel
theorem dX1_isWord_18 : decode cX1_isWord 18 = .ok (.isub, 1) := by decide +kernel
theorem dX1_isWord_19 : decode cX1_isWord 19 = .ok (.bipush 8, 2) := by decide +kernel
theorem dX1_isWord_21 : decode cX1_isWord 21 = .ok (.if_icmp .le 5, 3) := by decide +kernel
theorem dX1_isWord_24 : decode cX1_isWord 24 = .ok (.iconst 0, 1) := by decide +kernel
theorem dX1_isWord_25 : decode cX1_isWord 25 = .ok (.ireturn, 1) := by decide +kernel
theorem dX1_isWord_26 : decode cX1_isWord 26 = .ok (.iconst 0, 1) := by decide +kernel
theorem dX1_isWord_27 : decode cX1_isWord 27 = .ok (.istore 4, 2) := by decide +kernel
theorem dX1_isWord_29 : decode cX1_isWord 29 = .ok (.iload 4, 2) := by decide +kernel
theorem dX1_isWord_31 : decode cX1_isWord 31 = .ok (.bipush 8, 2) := by decide +kernel
theorem dX1_isWord_33 : decode cX1_isWord 33 = .ok (.if_icmp .ge 51, 3) := by decide +kernel
theorem dX1_isWord_36 : decode cX1_isWord 36 = .ok (.iload_n 2, 1) := by decide +kernel
theorem dX1_isWord_37 : decode cX1_isWord 37 = .ok (.iload 4, 2) := by decide +kernel
theorem dX1_isWord_39 : decode cX1_isWord 39 = .ok (.iadd, 1) := by decide +kernel
theorem dX1_isWord_40 : decode cX1_isWord 40 = .ok (.iload_n 3, 1) := by decide +kernel
theorem dX1_isWord_41 : decode cX1_isWord 41 = .ok (.if_icmp .ge 17, 3) := by decide +kernel
theorem dX1_isWord_44 : decode cX1_isWord 44 = .ok (.aload_n 0, 1) := by decide +kernel
theorem dX1_isWord_45 : decode cX1_isWord 45 = .ok (.getfield 27, 3) := by decide +kernel
theorem dX1_isWord_48 : decode cX1_isWord 48 = .ok (.iload_n 2, 1) := by decide +kernel
theorem dX1_isWord_49 : decode cX1_isWord 49 = .ok (.iload 4, 2) := by decide +kernel
theorem dX1_isWord_51 : decode cX1_isWord 51 = .ok (.iadd, 1) := by decide +kernel
theorem dX1_isWord_52 : decode cX1_isWord 52 = .ok (.invokevirtual 86, 3) := by decide +kernel
theorem dX1_isWord_55 : decode cX1_isWord 55 = .ok (.goto 5, 3) := by decide +kernel
theorem dX1_isWord_58 : decode cX1_isWord 58 = .ok (.bipush 32, 2) := by decide +kernel
theorem dX1_isWord_60 : decode cX1_isWord 60 = .ok (.istore 5, 2) := by decide +kernel
theorem dX1_isWord_62 : decode cX1_isWord 62 = .ok (.iload 5, 2) := by decide +kernel
theorem dX1_isWord_64 : decode cX1_isWord 64 = .ok (.ldc 119, 2) := by decide +kernel
theorem dX1_isWord_66 : decode cX1_isWord 66 = .ok (.iload_n 1, 1) := by decide +kernel
theorem dX1_isWord_67 : decode cX1_isWord 67 = .ok (.iload 4, 2) := by decide +kernel
theorem dX1_isWord_69 : decode cX1_isWord 69 = .ok (.iadd, 1) := by decide +kernel
theorem dX1_isWord_70 : decode cX1_isWord 70 = .ok (.invokevirtual 130, 3) := by decide +kernel
theorem dX1_isWord_73 : decode cX1_isWord 73 = .ok (.if_icmp .eq 5, 3) := by decide +kernel
theorem dX1_isWord_76 : decode cX1_isWord 76 = .ok (.iconst 0, 1) := by decide +kernel
theorem dX1_isWord_77 : decode cX1_isWord 77 = .ok (.ireturn, 1) := by decide +kernel
theorem dX1_isWord_78 : decode cX1_isWord 78 = .ok (.iinc 4 1, 3) := by decide +kernel
theorem dX1_isWord_81 : decode cX1_isWord 81 = .ok (.goto (-52), 3) := by decide +kernel
theorem dX1_isWord_84 : decode cX1_isWord 84 = .ok (.iconst 1, 1) := by decide +kernel
theorem dX1_isWord_85 : decode cX1_isWord 85 = .ok (.ireturn, 1) := by decide +kernel
set_option maxRecDepth 20000 in
theorem ggX1_numberAt_X3_byteAt : GoodIn wsX1_numberAt wsX3_byteAt := goodIn_r _ [10, 11, 12, 30, 31] (by decide +kernel) (by decide +kernel)
set_option maxRecDepth 20000 in
theorem gX1_numberAt_X3_byteAt_n86 : GoodIn wsX1_numberAt (wsX3_byteAt) := ggX1_numberAt_X3_byteAt
theorem dX1_numberAt_0 : decode cX1_numberAt 0 = .ok (.iconst 0, 1) := by decide +kernel
theorem dX1_numberAt_1 : decode cX1_numberAt 1 = .ok (.istore_n 3, 1) := by decide +kernel
theorem dX1_numberAt_2 : decode cX1_numberAt 2 = .ok (.iload_n 1, 1) := by decide +kernel
theorem dX1_numberAt_3 : decode cX1_numberAt 3 = .ok (.istore 4, 2) := by decide +kernel
theorem dX1_numberAt_5 : decode cX1_numberAt 5 = .ok (.iload 4, 2) := by decide +kernel
theorem dX1_numberAt_7 : decode cX1_numberAt 7 = .ok (.iload_n 2, 1) := by decide +kernel
theorem dX1_numberAt_8 : decode cX1_numberAt 8 = .ok (.if_icmp .ge 32, 3) := by decide +kernel
theorem dX1_numberAt_11 : decode cX1_numberAt 11 = .ok (.iload_n 3, 1) := by decide +kernel
theorem dX1_numberAt_12 : decode cX1_numberAt 12 = .ok (.bipush 10, 2) := by decide +kernel
theorem dX1_numberAt_14 : decode cX1_numberAt 14 = .ok (.imul, 1) := by decide +kernel
theorem dX1_numberAt_15 : decode cX1_numberAt 15 = .ok (.aload_n 0, 1) := by decide +kernel
theorem dX1_numberAt_16 : decode cX1_numberAt 16 = .ok (.getfield 27, 3) := by decide +kernel
theorem dX1_numberAt_19 : decode cX1_numberAt 19 = .ok (.iload 4, 2) := by decide +kernel
theorem dX1_numberAt_21 : decode cX1_numberAt 21 = .ok (.invokevirtual 86, 3) := by decide +kernel
theorem dX1_numberAt_24 : decode cX1_numberAt 24 = .ok (.iadd, 1) := by decide +kernel
theorem dX1_numberAt_25 : decode cX1_numberAt 25 = .ok (.bipush 48, 2) := by decide +kernel
theorem dX1_numberAt_27 : decode cX1_numberAt 27 = .ok (.isub, 1) := by decide +kernel
theorem dX1_numberAt_28 : decode cX1_numberAt 28 = .ok (.ldc 134, 2) := by decide +kernel
theorem dX1_numberAt_30 : decode cX1_numberAt 30 = .ok (.invokestatic 135, 3) := by decide +kernel
theorem dX1_numberAt_33 : decode cX1_numberAt 33 = .ok (.istore_n 3, 1) := by decide +kernel
theorem dX1_numberAt_34 : decode cX1_numberAt 34 = .ok (.iinc 4 1, 3) := by decide +kernel
theorem dX1_numberAt_37 : decode cX1_numberAt 37 = .ok (.goto (-32), 3) := by decide +kernel
theorem dX1_numberAt_40 : decode cX1_numberAt 40 = .ok (.iload_n 3, 1) := by decide +kernel
theorem dX1_numberAt_41 : decode cX1_numberAt 41 = .ok (.ireturn, 1) := by decide +kernel
set_option maxRecDepth 20000 in
theorem ggX1_accepts_X1_acceptsStatement : GoodIn wsX1_accepts wsX1_acceptsStatement := goodIn_r _ [6, 7, 8, 9, 10, 1, 11, 12, 13, 5, 14, 15, 16, 79, 80, 81, 82, 83, 84, 85, 86, 87, 88, 89, 90, 91, 92, 93, 94, 95] (by decide +kernel) (by decide +kernel)
set_option maxRecDepth 20000 in
theorem gX1_accepts_X1_acceptsStatement : GoodIn wsX1_accepts (wsV RX1 140 RX1 yX1_acceptsStatement wsX1_acceptsStatement) := goodIn_app (goodIn_of _ (by decide +kernel)) ggX1_accepts_X1_acceptsStatement
set_option maxRecDepth 20000 in
theorem ggX1_accepts_X1_acceptsAct : GoodIn wsX1_accepts wsX1_acceptsAct := goodIn_r _ [14, 10, 7, 15, 16, 1, 79, 80, 81, 82, 83, 84, 85, 86, 87, 88, 89, 90, 91, 92, 93, 94, 95] (by decide +kernel) (by decide +kernel)
set_option maxRecDepth 20000 in
theorem gX1_accepts_X1_acceptsAct : GoodIn wsX1_accepts (wsV RX1 143 RX1 yX1_acceptsAct wsX1_acceptsAct) := goodIn_app (goodIn_of _ (by decide +kernel)) ggX1_accepts_X1_acceptsAct
set_option maxRecDepth 20000 in
theorem ggX1_accepts_X1_acceptsShare : GoodIn wsX1_accepts wsX1_acceptsShare := goodIn_r _ [20, 10, 21, 7, 16, 1, 79, 80, 81, 82, 83, 84, 85, 86, 87, 88, 89, 90, 91, 92, 93, 94, 95] (by decide +kernel) (by decide +kernel)
set_option maxRecDepth 20000 in
theorem gX1_accepts_X1_acceptsShare : GoodIn wsX1_accepts (wsV RX1 146 RX1 yX1_acceptsShare wsX1_acceptsShare) := goodIn_app (goodIn_of _ (by decide +kernel)) ggX1_accepts_X1_acceptsShare
set_option maxRecDepth 20000 in
theorem ggX1_accepts_X1_acceptsClose : GoodIn wsX1_accepts wsX1_acceptsClose := goodIn_r _ [25, 10, 7, 1, 79, 80, 81, 82, 83, 84, 85, 86, 87, 88, 89, 90, 91, 92, 93, 94, 95] (by decide +kernel) (by decide +kernel)
set_option maxRecDepth 20000 in
theorem gX1_accepts_X1_acceptsClose : GoodIn wsX1_accepts (wsV RX1 149 RX1 yX1_acceptsClose wsX1_acceptsClose) := goodIn_app (goodIn_of _ (by decide +kernel)) ggX1_accepts_X1_acceptsClose
set_option maxRecDepth 20000 in
theorem ggX1_accepts_X1_acceptsOne : GoodIn wsX1_accepts wsX1_acceptsOne := goodIn_r _ [29, 10, 30, 31, 32, 33, 34, 35, 5, 36, 37, 38, 21, 1, 39, 40, 41, 42, 9, 43, 44, 45, 46, 47, 48, 49, 79, 80, 81, 82, 83, 84, 85, 86, 87, 88, 89, 90, 91, 92, 93, 94, 95] (by decide +kernel) (by decide +kernel)
set_option maxRecDepth 20000 in
theorem gX1_accepts_X1_acceptsOne : GoodIn wsX1_accepts (wsV RX1 152 RX1 yX1_acceptsOne wsX1_acceptsOne) := goodIn_app (goodIn_of _ (by decide +kernel)) ggX1_accepts_X1_acceptsOne
set_option maxRecDepth 20000 in
theorem ggX1_accepts_X1_acceptsPart : GoodIn wsX1_accepts wsX1_acceptsPart := goodIn_r _ [36, 10, 37, 38, 21, 1, 39, 40, 41, 5, 42, 9, 43, 79, 80, 81, 82, 83, 84, 85, 86, 87, 88, 89, 90, 91, 92, 93, 94, 95] (by decide +kernel) (by decide +kernel)
set_option maxRecDepth 20000 in
theorem gX1_accepts_X1_acceptsPart : GoodIn wsX1_accepts (wsV RX1 155 RX1 yX1_acceptsPart wsX1_acceptsPart) := goodIn_app (goodIn_of _ (by decide +kernel)) ggX1_accepts_X1_acceptsPart
set_option maxRecDepth 20000 in
theorem ggX1_accepts_X1_acceptsBehindPart : GoodIn wsX1_accepts wsX1_acceptsBehindPart := goodIn_r _ [53, 10, 30, 1, 54, 55, 5, 56, 57, 58, 59, 60, 61, 62, 63, 32, 64, 65, 66, 67, 68, 69, 70, 71, 72, 73, 74, 48, 49, 31, 39, 40, 41, 42, 9, 43, 44, 45, 46, 47, 75, 76, 77, 78, 79, 80, 81, 82, 83, 84, 85, 86, 87, 88, 89, 90, 91, 92, 93, 94, 95] (by decide +kernel) (by decide +kernel)
set_option maxRecDepth 20000 in
theorem gX1_accepts_X1_acceptsBehindPart : GoodIn wsX1_accepts (wsV RX1 158 RX1 yX1_acceptsBehindPart wsX1_acceptsBehindPart) := goodIn_app (goodIn_of _ (by decide +kernel)) ggX1_accepts_X1_acceptsBehindPart
set_option maxRecDepth 20000 in
theorem ggX1_accepts_X1_acceptsBehindOne : GoodIn wsX1_accepts wsX1_acceptsBehindOne := goodIn_r _ [63, 10, 1, 32, 64, 65, 66, 5, 67, 68, 69, 70, 71, 72, 73, 74, 48, 49, 31, 39, 40, 41, 42, 9, 43, 44, 45, 46, 47, 75, 76, 77, 78, 79, 80, 81, 82, 83, 84, 85, 86, 87, 88, 89, 90, 91, 92, 93, 94, 95] (by decide +kernel) (by decide +kernel)
set_option maxRecDepth 20000 in
theorem gX1_accepts_X1_acceptsBehindOne : GoodIn wsX1_accepts (wsV RX1 161 RX1 yX1_acceptsBehindOne wsX1_acceptsBehindOne) := goodIn_app (goodIn_of _ (by decide +kernel)) ggX1_accepts_X1_acceptsBehindOne
theorem dX1_accepts_0 : decode cX1_accepts 0 = .ok (.aload_n 0, 1) := by decide +kernel
theorem dX1_accepts_1 : decode cX1_accepts 1 = .ok (.getfield 35, 3) := by decide +kernel
theorem dX1_accepts_4 : decode cX1_accepts 4 = .ok (.tableswitch 79 0 6 #[44, 49, 54, 59, 64, 69, 74], 44) := by decide +kernel
theorem dX1_accepts_48 : decode cX1_accepts 48 = .ok (.aload_n 0, 1) := by decide +kernel
theorem dX1_accepts_49 : decode cX1_accepts 49 = .ok (.invokevirtual 140, 3) := by decide +kernel
theorem dX1_accepts_52 : decode cX1_accepts 52 = .ok (.ireturn, 1) := by decide +kernel
theorem dX1_accepts_53 : decode cX1_accepts 53 = .ok (.aload_n 0, 1) := by decide +kernel
theorem dX1_accepts_54 : decode cX1_accepts 54 = .ok (.invokevirtual 143, 3) := by decide +kernel
theorem dX1_accepts_57 : decode cX1_accepts 57 = .ok (.ireturn, 1) := by decide +kernel
theorem dX1_accepts_58 : decode cX1_accepts 58 = .ok (.aload_n 0, 1) := by decide +kernel
theorem dX1_accepts_59 : decode cX1_accepts 59 = .ok (.invokevirtual 146, 3) := by decide +kernel
theorem dX1_accepts_62 : decode cX1_accepts 62 = .ok (.ireturn, 1) := by decide +kernel
theorem dX1_accepts_63 : decode cX1_accepts 63 = .ok (.aload_n 0, 1) := by decide +kernel
theorem dX1_accepts_64 : decode cX1_accepts 64 = .ok (.invokevirtual 149, 3) := by decide +kernel
theorem dX1_accepts_67 : decode cX1_accepts 67 = .ok (.ireturn, 1) := by decide +kernel
theorem dX1_accepts_68 : decode cX1_accepts 68 = .ok (.aload_n 0, 1) := by decide +kernel
theorem dX1_accepts_69 : decode cX1_accepts 69 = .ok (.invokevirtual 152, 3) := by decide +kernel
theorem dX1_accepts_72 : decode cX1_accepts 72 = .ok (.ireturn, 1) := by decide +kernel
theorem dX1_accepts_73 : decode cX1_accepts 73 = .ok (.aload_n 0, 1) := by decide +kernel
theorem dX1_accepts_74 : decode cX1_accepts 74 = .ok (.invokevirtual 155, 3) := by decide +kernel
theorem dX1_accepts_77 : decode cX1_accepts 77 = .ok (.ireturn, 1) := by decide +kernel
theorem dX1_accepts_78 : decode cX1_accepts 78 = .ok (.aload_n 0, 1) := by decide +kernel
theorem dX1_accepts_79 : decode cX1_accepts 79 = .ok (.invokevirtual 158, 3) := by decide +kernel
theorem dX1_accepts_82 : decode cX1_accepts 82 = .ok (.ireturn, 1) := by decide +kernel
theorem dX1_accepts_83 : decode cX1_accepts 83 = .ok (.aload_n 0, 1) := by decide +kernel
theorem dX1_accepts_84 : decode cX1_accepts 84 = .ok (.invokevirtual 161, 3) := by decide +kernel
theorem dX1_accepts_87 : decode cX1_accepts 87 = .ok (.ireturn, 1) := by decide +kernel
set_option maxRecDepth 20000 in
theorem ggX1_acceptsStatement_X1_acceptsAct : GoodIn wsX1_acceptsStatement wsX1_acceptsAct := goodIn_r _ [10, 4, 1, 11, 12, 5, 13, 14, 15, 16, 17, 18, 19, 20, 21, 22, 23, 24, 25, 26, 27, 28, 29] (by decide +kernel) (by decide +kernel)
set_option maxRecDepth 20000 in
theorem gX1_acceptsStatement_X1_acceptsAct : GoodIn wsX1_acceptsStatement (wsV RX1 143 RX1 yX1_acceptsAct wsX1_acceptsAct) := goodIn_app (goodIn_of _ (by decide +kernel)) ggX1_acceptsStatement_X1_acceptsAct
theorem dX1_acceptsStatement_0 : decode cX1_acceptsStatement 0 = .ok (.aload_n 0, 1) := by decide +kernel
theorem dX1_acceptsStatement_1 : decode cX1_acceptsStatement 1 = .ok (.getfield 51, 3) := by decide +kernel
theorem dX1_acceptsStatement_4 : decode cX1_acceptsStatement 4 = .ok (.bipush 40, 2) := by decide +kernel
theorem dX1_acceptsStatement_6 : decode cX1_acceptsStatement 6 = .ok (.if_icmp .lt 5, 3) := by decide +kernel
theorem dX1_acceptsStatement_9 : decode cX1_acceptsStatement 9 = .ok (.iconst 0, 1) := by decide +kernel
theorem dX1_acceptsStatement_10 : decode cX1_acceptsStatement 10 = .ok (.ireturn, 1) := by decide +kernel
theorem dX1_acceptsStatement_11 : decode cX1_acceptsStatement 11 = .ok (.aload_n 0, 1) := by decide +kernel
theorem dX1_acceptsStatement_12 : decode cX1_acceptsStatement 12 = .ok (.getfield 21, 3) := by decide +kernel
theorem dX1_acceptsStatement_15 : decode cX1_acceptsStatement 15 = .ok (.aload_n 0, 1) := by decide +kernel
theorem dX1_acceptsStatement_16 : decode cX1_acceptsStatement 16 = .ok (.getfield 51, 3) := by decide +kernel
theorem dX1_acceptsStatement_19 : decode cX1_acceptsStatement 19 = .ok (.aload_n 0, 1) := by decide +kernel
theorem dX1_acceptsStatement_20 : decode cX1_acceptsStatement 20 = .ok (.getfield 54, 3) := by decide +kernel
theorem dX1_acceptsStatement_23 : decode cX1_acceptsStatement 23 = .ok (.iastore, 1) := by decide +kernel
theorem dX1_acceptsStatement_24 : decode cX1_acceptsStatement 24 = .ok (.aload_n 0, 1) := by decide +kernel
theorem dX1_acceptsStatement_25 : decode cX1_acceptsStatement 25 = .ok (.getfield 60, 3) := by decide +kernel
theorem dX1_acceptsStatement_28 : decode cX1_acceptsStatement 28 = .ok (.bipush 6, 2) := by decide +kernel
theorem dX1_acceptsStatement_30 : decode cX1_acceptsStatement 30 = .ok (.if_icmp .eq 8, 3) := by decide +kernel
theorem dX1_acceptsStatement_33 : decode cX1_acceptsStatement 33 = .ok (.aload_n 0, 1) := by decide +kernel
theorem dX1_acceptsStatement_34 : decode cX1_acceptsStatement 34 = .ok (.invokevirtual 143, 3) := by decide +kernel
theorem dX1_acceptsStatement_37 : decode cX1_acceptsStatement 37 = .ok (.ireturn, 1) := by decide +kernel
theorem dX1_acceptsStatement_38 : decode cX1_acceptsStatement 38 = .ok (.aload_n 0, 1) := by decide +kernel
theorem dX1_acceptsStatement_39 : decode cX1_acceptsStatement 39 = .ok (.iconst 4, 1) := by decide +kernel
theorem dX1_acceptsStatement_40 : decode cX1_acceptsStatement 40 = .ok (.putfield 35, 3) := by decide +kernel
theorem dX1_acceptsStatement_43 : decode cX1_acceptsStatement 43 = .ok (.iconst 1, 1) := by decide +kernel
theorem dX1_acceptsStatement_44 : decode cX1_acceptsStatement 44 = .ok (.ireturn, 1) := by decide +kernel
theorem dX1_acceptsAct_0 : decode cX1_acceptsAct 0 = .ok (.aload_n 0, 1) := by decide +kernel
theorem dX1_acceptsAct_1 : decode cX1_acceptsAct 1 = .ok (.getfield 60, 3) := by decide +kernel
theorem dX1_acceptsAct_4 : decode cX1_acceptsAct 4 = .ok (.ifCond .lt 20, 3) := by decide +kernel
theorem dX1_acceptsAct_7 : decode cX1_acceptsAct 7 = .ok (.aload_n 0, 1) := by decide +kernel
theorem dX1_acceptsAct_8 : decode cX1_acceptsAct 8 = .ok (.getfield 60, 3) := by decide +kernel
theorem dX1_acceptsAct_11 : decode cX1_acceptsAct 11 = .ok (.iconst 5, 1) := by decide +kernel
theorem dX1_acceptsAct_12 : decode cX1_acceptsAct 12 = .ok (.if_icmp .gt 12, 3) := by decide +kernel
theorem dX1_acceptsAct_15 : decode cX1_acceptsAct 15 = .ok (.aload_n 0, 1) := by decide +kernel
theorem dX1_acceptsAct_16 : decode cX1_acceptsAct 16 = .ok (.getfield 51, 3) := by decide +kernel
theorem dX1_acceptsAct_19 : decode cX1_acceptsAct 19 = .ok (.bipush 40, 2) := by decide +kernel
theorem dX1_acceptsAct_21 : decode cX1_acceptsAct 21 = .ok (.if_icmp .lt 5, 3) := by decide +kernel
theorem dX1_acceptsAct_24 : decode cX1_acceptsAct 24 = .ok (.iconst 0, 1) := by decide +kernel
theorem dX1_acceptsAct_25 : decode cX1_acceptsAct 25 = .ok (.ireturn, 1) := by decide +kernel
theorem dX1_acceptsAct_26 : decode cX1_acceptsAct 26 = .ok (.aload_n 0, 1) := by decide +kernel
theorem dX1_acceptsAct_27 : decode cX1_acceptsAct 27 = .ok (.getfield 15, 3) := by decide +kernel
theorem dX1_acceptsAct_30 : decode cX1_acceptsAct 30 = .ok (.aload_n 0, 1) := by decide +kernel
theorem dX1_acceptsAct_31 : decode cX1_acceptsAct 31 = .ok (.getfield 51, 3) := by decide +kernel
theorem dX1_acceptsAct_34 : decode cX1_acceptsAct 34 = .ok (.aload_n 0, 1) := by decide +kernel
theorem dX1_acceptsAct_35 : decode cX1_acceptsAct 35 = .ok (.getfield 60, 3) := by decide +kernel
theorem dX1_acceptsAct_38 : decode cX1_acceptsAct 38 = .ok (.iastore, 1) := by decide +kernel
theorem dX1_acceptsAct_39 : decode cX1_acceptsAct 39 = .ok (.aload_n 0, 1) := by decide +kernel
theorem dX1_acceptsAct_40 : decode cX1_acceptsAct 40 = .ok (.getfield 18, 3) := by decide +kernel
theorem dX1_acceptsAct_43 : decode cX1_acceptsAct 43 = .ok (.aload_n 0, 1) := by decide +kernel
theorem dX1_acceptsAct_44 : decode cX1_acceptsAct 44 = .ok (.getfield 51, 3) := by decide +kernel
theorem dX1_acceptsAct_47 : decode cX1_acceptsAct 47 = .ok (.aload_n 0, 1) := by decide +kernel
theorem dX1_acceptsAct_48 : decode cX1_acceptsAct 48 = .ok (.getfield 60, 3) := by decide +kernel
theorem dX1_acceptsAct_51 : decode cX1_acceptsAct 51 = .ok (.ifCond .ne 8, 3) := by decide +kernel
theorem dX1_acceptsAct_54 : decode cX1_acceptsAct 54 = .ok (.bipush 100, 2) := by decide +kernel
theorem dX1_acceptsAct_56 : decode cX1_acceptsAct 56 = .ok (.goto 4, 3) := by decide +kernel
theorem dX1_acceptsAct_59 : decode cX1_acceptsAct 59 = .ok (.iconst 0, 1) := by decide +kernel
theorem dX1_acceptsAct_60 : decode cX1_acceptsAct 60 = .ok (.iastore, 1) := by decide +kernel
theorem dX1_acceptsAct_61 : decode cX1_acceptsAct 61 = .ok (.aload_n 0, 1) := by decide +kernel
theorem dX1_acceptsAct_62 : decode cX1_acceptsAct 62 = .ok (.aload_n 0, 1) := by decide +kernel
theorem dX1_acceptsAct_63 : decode cX1_acceptsAct 63 = .ok (.getfield 60, 3) := by decide +kernel
theorem dX1_acceptsAct_66 : decode cX1_acceptsAct 66 = .ok (.iconst 1, 1) := by decide +kernel
theorem dX1_acceptsAct_67 : decode cX1_acceptsAct 67 = .ok (.if_icmp .ne 7, 3) := by decide +kernel
theorem dX1_acceptsAct_70 : decode cX1_acceptsAct 70 = .ok (.iconst 2, 1) := by decide +kernel
theorem dX1_acceptsAct_71 : decode cX1_acceptsAct 71 = .ok (.goto 4, 3) := by decide +kernel
theorem dX1_acceptsAct_74 : decode cX1_acceptsAct 74 = .ok (.iconst 3, 1) := by decide +kernel
theorem dX1_acceptsAct_75 : decode cX1_acceptsAct 75 = .ok (.putfield 35, 3) := by decide +kernel
theorem dX1_acceptsAct_78 : decode cX1_acceptsAct 78 = .ok (.iconst 1, 1) := by decide +kernel
theorem dX1_acceptsAct_79 : decode cX1_acceptsAct 79 = .ok (.ireturn, 1) := by decide +kernel
theorem dX1_acceptsShare_0 : decode cX1_acceptsShare 0 = .ok (.aload_n 0, 1) := by decide +kernel
theorem dX1_acceptsShare_1 : decode cX1_acceptsShare 1 = .ok (.getfield 60, 3) := by decide +kernel
theorem dX1_acceptsShare_4 : decode cX1_acceptsShare 4 = .ok (.bipush 30, 2) := by decide +kernel
theorem dX1_acceptsShare_6 : decode cX1_acceptsShare 6 = .ok (.if_icmp .ne 29, 3) := by decide +kernel
theorem dX1_acceptsShare_9 : decode cX1_acceptsShare 9 = .ok (.aload_n 0, 1) := by decide +kernel
theorem dX1_acceptsShare_10 : decode cX1_acceptsShare 10 = .ok (.getfield 107, 3) := by decide +kernel
theorem dX1_acceptsShare_13 : decode cX1_acceptsShare 13 = .ok (.iconst 1, 1) := by decide +kernel
theorem dX1_acceptsShare_14 : decode cX1_acceptsShare 14 = .ok (.if_icmp .lt 21, 3) := by decide +kernel
theorem dX1_acceptsShare_17 : decode cX1_acceptsShare 17 = .ok (.aload_n 0, 1) := by decide +kernel
theorem dX1_acceptsShare_18 : decode cX1_acceptsShare 18 = .ok (.getfield 107, 3) := by decide +kernel
theorem dX1_acceptsShare_21 : decode cX1_acceptsShare 21 = .ok (.bipush 100, 2) := by decide +kernel
theorem dX1_acceptsShare_23 : decode cX1_acceptsShare 23 = .ok (.if_icmp .gt 12, 3) := by decide +kernel
theorem dX1_acceptsShare_26 : decode cX1_acceptsShare 26 = .ok (.aload_n 0, 1) := by decide +kernel
theorem dX1_acceptsShare_27 : decode cX1_acceptsShare 27 = .ok (.getfield 51, 3) := by decide +kernel
theorem dX1_acceptsShare_30 : decode cX1_acceptsShare 30 = .ok (.bipush 40, 2) := by decide +kernel
theorem dX1_acceptsShare_32 : decode cX1_acceptsShare 32 = .ok (.if_icmp .lt 5, 3) := by decide +kernel
theorem dX1_acceptsShare_35 : decode cX1_acceptsShare 35 = .ok (.iconst 0, 1) := by decide +kernel
theorem dX1_acceptsShare_36 : decode cX1_acceptsShare 36 = .ok (.ireturn, 1) := by decide +kernel
theorem dX1_acceptsShare_37 : decode cX1_acceptsShare 37 = .ok (.aload_n 0, 1) := by decide +kernel
theorem dX1_acceptsShare_38 : decode cX1_acceptsShare 38 = .ok (.getfield 18, 3) := by decide +kernel
theorem dX1_acceptsShare_41 : decode cX1_acceptsShare 41 = .ok (.aload_n 0, 1) := by decide +kernel
theorem dX1_acceptsShare_42 : decode cX1_acceptsShare 42 = .ok (.getfield 51, 3) := by decide +kernel
theorem dX1_acceptsShare_45 : decode cX1_acceptsShare 45 = .ok (.aload_n 0, 1) := by decide +kernel
theorem dX1_acceptsShare_46 : decode cX1_acceptsShare 46 = .ok (.getfield 107, 3) := by decide +kernel
theorem dX1_acceptsShare_49 : decode cX1_acceptsShare 49 = .ok (.iastore, 1) := by decide +kernel
theorem dX1_acceptsShare_50 : decode cX1_acceptsShare 50 = .ok (.aload_n 0, 1) := by decide +kernel
theorem dX1_acceptsShare_51 : decode cX1_acceptsShare 51 = .ok (.iconst 3, 1) := by decide +kernel
theorem dX1_acceptsShare_52 : decode cX1_acceptsShare 52 = .ok (.putfield 35, 3) := by decide +kernel
theorem dX1_acceptsShare_55 : decode cX1_acceptsShare 55 = .ok (.iconst 1, 1) := by decide +kernel
theorem dX1_acceptsShare_56 : decode cX1_acceptsShare 56 = .ok (.ireturn, 1) := by decide +kernel
theorem dX1_acceptsClose_0 : decode cX1_acceptsClose 0 = .ok (.aload_n 0, 1) := by decide +kernel
theorem dX1_acceptsClose_1 : decode cX1_acceptsClose 1 = .ok (.getfield 60, 3) := by decide +kernel
theorem dX1_acceptsClose_4 : decode cX1_acceptsClose 4 = .ok (.bipush 59, 2) := by decide +kernel
theorem dX1_acceptsClose_6 : decode cX1_acceptsClose 6 = .ok (.if_icmp .eq 5, 3) := by decide +kernel
theorem dX1_acceptsClose_9 : decode cX1_acceptsClose 9 = .ok (.iconst 0, 1) := by decide +kernel
theorem dX1_acceptsClose_10 : decode cX1_acceptsClose 10 = .ok (.ireturn, 1) := by decide +kernel
theorem dX1_acceptsClose_11 : decode cX1_acceptsClose 11 = .ok (.aload_n 0, 1) := by decide +kernel
theorem dX1_acceptsClose_12 : decode cX1_acceptsClose 12 = .ok (.dup, 1) := by decide +kernel
theorem dX1_acceptsClose_13 : decode cX1_acceptsClose 13 = .ok (.getfield 51, 3) := by decide +kernel
theorem dX1_acceptsClose_16 : decode cX1_acceptsClose 16 = .ok (.iconst 1, 1) := by decide +kernel
theorem dX1_acceptsClose_17 : decode cX1_acceptsClose 17 = .ok (.iadd, 1) := by decide +kernel
theorem dX1_acceptsClose_18 : decode cX1_acceptsClose 18 = .ok (.putfield 51, 3) := by decide +kernel
theorem dX1_acceptsClose_21 : decode cX1_acceptsClose 21 = .ok (.aload_n 0, 1) := by decide +kernel
theorem dX1_acceptsClose_22 : decode cX1_acceptsClose 22 = .ok (.iconst 0, 1) := by decide +kernel
theorem dX1_acceptsClose_23 : decode cX1_acceptsClose 23 = .ok (.putfield 35, 3) := by decide +kernel
theorem dX1_acceptsClose_26 : decode cX1_acceptsClose 26 = .ok (.iconst 1, 1) := by decide +kernel
theorem dX1_acceptsClose_27 : decode cX1_acceptsClose 27 = .ok (.ireturn, 1) := by decide +kernel
set_option maxRecDepth 20000 in
theorem ggX1_acceptsOne_X1_acceptsPart : GoodIn wsX1_acceptsOne wsX1_acceptsPart := goodIn_r _ [9, 1, 10, 11, 12, 13, 14, 15, 16, 8, 17, 18, 19, 26, 27, 28, 29, 30, 31, 32, 33, 34, 35, 36, 37, 38, 39, 40, 41, 42] (by decide +kernel) (by decide +kernel)
set_option maxRecDepth 20000 in
theorem gX1_acceptsOne_X1_acceptsPart : GoodIn wsX1_acceptsOne (wsV RX1 155 RX1 yX1_acceptsPart wsX1_acceptsPart) := goodIn_app (goodIn_of _ (by decide +kernel)) ggX1_acceptsOne_X1_acceptsPart
set_option maxRecDepth 20000 in
theorem ggX1_acceptsOne_X1_push : GoodIn wsX1_acceptsOne wsX1_push := goodIn_r _ [23, 24, 25, 26, 27, 28, 29, 30, 31, 32, 33, 34, 35, 36, 37, 38, 39, 40, 41, 42] (by decide +kernel) (by decide +kernel)
set_option maxRecDepth 20000 in
theorem gX1_acceptsOne_X1_push : GoodIn wsX1_acceptsOne (wsV RX1 164 RX1 yX1_push wsX1_push) := goodIn_app (goodIn_of _ (by decide +kernel)) ggX1_acceptsOne_X1_push
theorem dX1_acceptsOne_0 : decode cX1_acceptsOne 0 = .ok (.aload_n 0, 1) := by decide +kernel
theorem dX1_acceptsOne_1 : decode cX1_acceptsOne 1 = .ok (.getfield 60, 3) := by decide +kernel
theorem dX1_acceptsOne_4 : decode cX1_acceptsOne 4 = .ok (.bipush 10, 2) := by decide +kernel
theorem dX1_acceptsOne_6 : decode cX1_acceptsOne 6 = .ok (.if_icmp .eq 22, 3) := by decide +kernel
theorem dX1_acceptsOne_9 : decode cX1_acceptsOne 9 = .ok (.aload_n 0, 1) := by decide +kernel
theorem dX1_acceptsOne_10 : decode cX1_acceptsOne 10 = .ok (.getfield 60, 3) := by decide +kernel
theorem dX1_acceptsOne_13 : decode cX1_acceptsOne 13 = .ok (.bipush 40, 2) := by decide +kernel
theorem dX1_acceptsOne_15 : decode cX1_acceptsOne 15 = .ok (.if_icmp .eq 13, 3) := by decide +kernel
theorem dX1_acceptsOne_18 : decode cX1_acceptsOne 18 = .ok (.aload_n 0, 1) := by decide +kernel
theorem dX1_acceptsOne_19 : decode cX1_acceptsOne 19 = .ok (.iconst 0, 1) := by decide +kernel
theorem dX1_acceptsOne_20 : decode cX1_acceptsOne 20 = .ok (.putfield 38, 3) := by decide +kernel
theorem dX1_acceptsOne_23 : decode cX1_acceptsOne 23 = .ok (.aload_n 0, 1) := by decide +kernel
theorem dX1_acceptsOne_24 : decode cX1_acceptsOne 24 = .ok (.invokevirtual 155, 3) := by decide +kernel
theorem dX1_acceptsOne_27 : decode cX1_acceptsOne 27 = .ok (.ireturn, 1) := by decide +kernel
theorem dX1_acceptsOne_28 : decode cX1_acceptsOne 28 = .ok (.aload_n 0, 1) := by decide +kernel
theorem dX1_acceptsOne_29 : decode cX1_acceptsOne 29 = .ok (.getfield 45, 3) := by decide +kernel
theorem dX1_acceptsOne_32 : decode cX1_acceptsOne 32 = .ok (.bipush 15, 2) := by decide +kernel
theorem dX1_acceptsOne_34 : decode cX1_acceptsOne 34 = .ok (.if_icmp .lt 5, 3) := by decide +kernel
theorem dX1_acceptsOne_37 : decode cX1_acceptsOne 37 = .ok (.iconst 0, 1) := by decide +kernel
theorem dX1_acceptsOne_38 : decode cX1_acceptsOne 38 = .ok (.ireturn, 1) := by decide +kernel
theorem dX1_acceptsOne_39 : decode cX1_acceptsOne 39 = .ok (.aload_n 0, 1) := by decide +kernel
theorem dX1_acceptsOne_40 : decode cX1_acceptsOne 40 = .ok (.dup, 1) := by decide +kernel
theorem dX1_acceptsOne_41 : decode cX1_acceptsOne 41 = .ok (.getfield 45, 3) := by decide +kernel
theorem dX1_acceptsOne_44 : decode cX1_acceptsOne 44 = .ok (.iconst 1, 1) := by decide +kernel
theorem dX1_acceptsOne_45 : decode cX1_acceptsOne 45 = .ok (.iadd, 1) := by decide +kernel
theorem dX1_acceptsOne_46 : decode cX1_acceptsOne 46 = .ok (.putfield 45, 3) := by decide +kernel
theorem dX1_acceptsOne_49 : decode cX1_acceptsOne 49 = .ok (.aload_n 0, 1) := by decide +kernel
theorem dX1_acceptsOne_50 : decode cX1_acceptsOne 50 = .ok (.getfield 60, 3) := by decide +kernel
theorem dX1_acceptsOne_53 : decode cX1_acceptsOne 53 = .ok (.bipush 40, 2) := by decide +kernel
theorem dX1_acceptsOne_55 : decode cX1_acceptsOne 55 = .ok (.if_icmp .ne 13, 3) := by decide +kernel
theorem dX1_acceptsOne_58 : decode cX1_acceptsOne 58 = .ok (.aload_n 0, 1) := by decide +kernel
theorem dX1_acceptsOne_59 : decode cX1_acceptsOne 59 = .ok (.dup, 1) := by decide +kernel
theorem dX1_acceptsOne_60 : decode cX1_acceptsOne 60 = .ok (.getfield 42, 3) := by decide +kernel
theorem dX1_acceptsOne_63 : decode cX1_acceptsOne 63 = .ok (.iconst 1, 1) := by decide +kernel
theorem dX1_acceptsOne_64 : decode cX1_acceptsOne 64 = .ok (.iadd, 1) := by decide +kernel
theorem dX1_acceptsOne_65 : decode cX1_acceptsOne 65 = .ok (.putfield 42, 3) := by decide +kernel
theorem dX1_acceptsOne_68 : decode cX1_acceptsOne 68 = .ok (.aload_n 0, 1) := by decide +kernel
theorem dX1_acceptsOne_69 : decode cX1_acceptsOne 69 = .ok (.aload_n 0, 1) := by decide +kernel
theorem dX1_acceptsOne_70 : decode cX1_acceptsOne 70 = .ok (.getfield 60, 3) := by decide +kernel
theorem dX1_acceptsOne_73 : decode cX1_acceptsOne 73 = .ok (.invokevirtual 164, 3) := by decide +kernel
theorem dX1_acceptsOne_76 : decode cX1_acceptsOne 76 = .ok (.iconst 1, 1) := by decide +kernel
theorem dX1_acceptsOne_77 : decode cX1_acceptsOne 77 = .ok (.ireturn, 1) := by decide +kernel
set_option maxRecDepth 20000 in
theorem ggX1_acceptsPart_X1_emit : GoodIn wsX1_acceptsPart wsX1_emit := goodIn_r _ [10, 11, 12, 13, 14, 15, 16, 17, 18, 19, 20, 21, 22, 23, 24, 25, 26, 27, 28, 29] (by decide +kernel) (by decide +kernel)
set_option maxRecDepth 20000 in
theorem gX1_acceptsPart_X1_emit : GoodIn wsX1_acceptsPart (wsV RX1 168 RX1 yX1_emit wsX1_emit) := goodIn_app (goodIn_of _ (by decide +kernel)) ggX1_acceptsPart_X1_emit
theorem dX1_acceptsPart_0 : decode cX1_acceptsPart 0 = .ok (.aload_n 0, 1) := by decide +kernel
theorem dX1_acceptsPart_1 : decode cX1_acceptsPart 1 = .ok (.getfield 60, 3) := by decide +kernel
theorem dX1_acceptsPart_4 : decode cX1_acceptsPart 4 = .ok (.bipush 30, 2) := by decide +kernel
theorem dX1_acceptsPart_6 : decode cX1_acceptsPart 6 = .ok (.if_icmp .ne 28, 3) := by decide +kernel
theorem dX1_acceptsPart_9 : decode cX1_acceptsPart 9 = .ok (.aload_n 0, 1) := by decide +kernel
theorem dX1_acceptsPart_10 : decode cX1_acceptsPart 10 = .ok (.getfield 31, 3) := by decide +kernel
theorem dX1_acceptsPart_13 : decode cX1_acceptsPart 13 = .ok (.aload_n 0, 1) := by decide +kernel
theorem dX1_acceptsPart_14 : decode cX1_acceptsPart 14 = .ok (.getfield 78, 3) := by decide +kernel
