theorem dX7_ask_311 : decode cX7_ask 311 = .ok (.iload 13, 2) := by decide +kernel
theorem dX7_ask_313 : decode cX7_ask 313 = .ok (.isub, 1) := by decide +kernel
theorem dX7_ask_314 : decode cX7_ask 314 = .ok (.iastore, 1) := by decide +kernel
theorem dX7_ask_315 : decode cX7_ask 315 = .ok (.iload 10, 2) := by decide +kernel
theorem dX7_ask_317 : decode cX7_ask 317 = .ok (.iconst 3, 1) := by decide +kernel
theorem dX7_ask_318 : decode cX7_ask 318 = .ok (.if_icmp .ne 25, 3) := by decide +kernel
theorem dX7_ask_321 : decode cX7_ask 321 = .ok (.aload_n 0, 1) := by decide +kernel
theorem dX7_ask_322 : decode cX7_ask 322 = .ok (.getfield 68, 3) := by decide +kernel
theorem dX7_ask_325 : decode cX7_ask 325 = .ok (.iload_n 2, 1) := by decide +kernel
theorem dX7_ask_326 : decode cX7_ask 326 = .ok (.dup2, 1) := by decide +kernel
theorem dX7_ask_327 : decode cX7_ask 327 = .ok (.iaload, 1) := by decide +kernel
theorem dX7_ask_328 : decode cX7_ask 328 = .ok (.aload_n 0, 1) := by decide +kernel
theorem dX7_ask_329 : decode cX7_ask 329 = .ok (.getfield 59, 3) := by decide +kernel
theorem dX7_ask_332 : decode cX7_ask 332 = .ok (.iload_n 2, 1) := by decide +kernel
theorem dX7_ask_333 : decode cX7_ask 333 = .ok (.iaload, 1) := by decide +kernel
theorem dX7_ask_334 : decode cX7_ask 334 = .ok (.iadd, 1) := by decide +kernel
theorem dX7_ask_335 : decode cX7_ask 335 = .ok (.iastore, 1) := by decide +kernel
theorem dX7_ask_336 : decode cX7_ask 336 = .ok (.aload_n 0, 1) := by decide +kernel
theorem dX7_ask_337 : decode cX7_ask 337 = .ok (.getfield 59, 3) := by decide +kernel
theorem dX7_ask_340 : decode cX7_ask 340 = .ok (.iload_n 2, 1) := by decide +kernel
theorem dX7_ask_341 : decode cX7_ask 341 = .ok (.iconst 0, 1) := by decide +kernel
theorem dX7_ask_342 : decode cX7_ask 342 = .ok (.iastore, 1) := by decide +kernel
theorem dX7_ask_343 : decode cX7_ask 343 = .ok (.iload 10, 2) := by decide +kernel
theorem dX7_ask_345 : decode cX7_ask 345 = .ok (.iconst 4, 1) := by decide +kernel
theorem dX7_ask_346 : decode cX7_ask 346 = .ok (.if_icmp .ne 41, 3) := by decide +kernel
theorem dX7_ask_349 : decode cX7_ask 349 = .ok (.aload_n 0, 1) := by decide +kernel
theorem dX7_ask_350 : decode cX7_ask 350 = .ok (.getfield 65, 3) := by decide +kernel
theorem dX7_ask_353 : decode cX7_ask 353 = .ok (.iload_n 2, 1) := by decide +kernel
theorem dX7_ask_354 : decode cX7_ask 354 = .ok (.iaload, 1) := by decide +kernel
theorem dX7_ask_355 : decode cX7_ask 355 = .ok (.ifCond .lt 32, 3) := by decide +kernel
theorem dX7_ask_358 : decode cX7_ask 358 = .ok (.aload_n 0, 1) := by decide +kernel
theorem dX7_ask_359 : decode cX7_ask 359 = .ok (.getfield 65, 3) := by decide +kernel
theorem dX7_ask_362 : decode cX7_ask 362 = .ok (.iload_n 2, 1) := by decide +kernel
theorem dX7_ask_363 : decode cX7_ask 363 = .ok (.iaload, 1) := by decide +kernel
theorem dX7_ask_364 : decode cX7_ask 364 = .ok (.iload_n 1, 1) := by decide +kernel
theorem dX7_ask_365 : decode cX7_ask 365 = .ok (.if_icmp .eq 22, 3) := by decide +kernel
theorem dX7_ask_368 : decode cX7_ask 368 = .ok (.aload_n 0, 1) := by decide +kernel
theorem dX7_ask_369 : decode cX7_ask 369 = .ok (.getfield 50, 3) := by decide +kernel
theorem dX7_ask_372 : decode cX7_ask 372 = .ok (.iload_n 2, 1) := by decide +kernel
theorem dX7_ask_373 : decode cX7_ask 373 = .ok (.aload_n 0, 1) := by decide +kernel
theorem dX7_ask_374 : decode cX7_ask 374 = .ok (.getfield 65, 3) := by decide +kernel
theorem dX7_ask_377 : decode cX7_ask 377 = .ok (.iload_n 2, 1) := by decide +kernel
theorem dX7_ask_378 : decode cX7_ask 378 = .ok (.iaload, 1) := by decide +kernel
theorem dX7_ask_379 : decode cX7_ask 379 = .ok (.iastore, 1) := by decide +kernel
theorem dX7_ask_380 : decode cX7_ask 380 = .ok (.aload_n 0, 1) := by decide +kernel
theorem dX7_ask_381 : decode cX7_ask 381 = .ok (.getfield 65, 3) := by decide +kernel
theorem dX7_ask_384 : decode cX7_ask 384 = .ok (.iload_n 2, 1) := by decide +kernel
theorem dX7_ask_385 : decode cX7_ask 385 = .ok (.iconst (-1), 1) := by decide +kernel
theorem dX7_ask_386 : decode cX7_ask 386 = .ok (.iastore, 1) := by decide +kernel
theorem dX7_ask_387 : decode cX7_ask 387 = .ok (.iload 10, 2) := by decide +kernel
theorem dX7_ask_389 : decode cX7_ask 389 = .ok (.iconst 5, 1) := by decide +kernel
theorem dX7_ask_390 : decode cX7_ask 390 = .ok (.if_icmp .ne 10, 3) := by decide +kernel
theorem dX7_ask_393 : decode cX7_ask 393 = .ok (.aload_n 0, 1) := by decide +kernel
theorem dX7_ask_394 : decode cX7_ask 394 = .ok (.getfield 75, 3) := by decide +kernel
theorem dX7_ask_397 : decode cX7_ask 397 = .ok (.iload_n 1, 1) := by decide +kernel
theorem dX7_ask_398 : decode cX7_ask 398 = .ok (.iconst 1, 1) := by decide +kernel
theorem dX7_ask_399 : decode cX7_ask 399 = .ok (.bastore, 1) := by decide +kernel
theorem dX7_ask_400 : decode cX7_ask 400 = .ok (.iload 13, 2) := by decide +kernel
theorem dX7_ask_402 : decode cX7_ask 402 = .ok (.ireturn, 1) := by decide +kernel
set_option maxRecDepth 20000 in
theorem ggX7_free_X7_isPerson : GoodIn wsX7_free wsX7_isPerson := goodIn_r _ [5, 6, 7, 4, 8] (by decide +kernel) (by decide +kernel)
set_option maxRecDepth 20000 in
theorem gX7_free_X7_isPerson : GoodIn wsX7_free (va_wsS RX7 281 yX7_isPerson wsX7_isPerson) := goodIn_app (goodIn_of _ (by decide +kernel)) ggX7_free_X7_isPerson
theorem dX7_free_0 : decode cX7_free 0 = .ok (.iload_n 1, 1) := by decide +kernel
theorem dX7_free_1 : decode cX7_free 1 = .ok (.invokestatic 281, 3) := by decide +kernel
theorem dX7_free_4 : decode cX7_free 4 = .ok (.ifCond .ne 5, 3) := by decide +kernel
theorem dX7_free_7 : decode cX7_free 7 = .ok (.iconst (-1), 1) := by decide +kernel
theorem dX7_free_8 : decode cX7_free 8 = .ok (.ireturn, 1) := by decide +kernel
theorem dX7_free_9 : decode cX7_free 9 = .ok (.aload_n 0, 1) := by decide +kernel
theorem dX7_free_10 : decode cX7_free 10 = .ok (.getfield 75, 3) := by decide +kernel
theorem dX7_free_13 : decode cX7_free 13 = .ok (.iload_n 1, 1) := by decide +kernel
theorem dX7_free_14 : decode cX7_free 14 = .ok (.baload, 1) := by decide +kernel
theorem dX7_free_15 : decode cX7_free 15 = .ok (.ifCond .eq 7, 3) := by decide +kernel
theorem dX7_free_18 : decode cX7_free 18 = .ok (.iconst 1, 1) := by decide +kernel
theorem dX7_free_19 : decode cX7_free 19 = .ok (.goto 4, 3) := by decide +kernel
theorem dX7_free_22 : decode cX7_free 22 = .ok (.iconst 0, 1) := by decide +kernel
theorem dX7_free_23 : decode cX7_free 23 = .ok (.istore_n 2, 1) := by decide +kernel
theorem dX7_free_24 : decode cX7_free 24 = .ok (.aload_n 0, 1) := by decide +kernel
theorem dX7_free_25 : decode cX7_free 25 = .ok (.getfield 75, 3) := by decide +kernel
theorem dX7_free_28 : decode cX7_free 28 = .ok (.iload_n 1, 1) := by decide +kernel
theorem dX7_free_29 : decode cX7_free 29 = .ok (.iconst 0, 1) := by decide +kernel
theorem dX7_free_30 : decode cX7_free 30 = .ok (.bastore, 1) := by decide +kernel
theorem dX7_free_31 : decode cX7_free 31 = .ok (.iload_n 2, 1) := by decide +kernel
theorem dX7_free_32 : decode cX7_free 32 = .ok (.ireturn, 1) := by decide +kernel
set_option maxRecDepth 20000 in
theorem ggX7_heir_X7_isPerson : GoodIn wsX7_heir wsX7_isPerson := goodIn_r _ [9, 10, 11, 8, 12] (by decide +kernel) (by decide +kernel)
set_option maxRecDepth 20000 in
theorem gX7_heir_X7_isPerson : GoodIn wsX7_heir (va_wsS RX7 281 yX7_isPerson wsX7_isPerson) := goodIn_app (goodIn_of _ (by decide +kernel)) ggX7_heir_X7_isPerson
theorem dX7_heir_0 : decode cX7_heir 0 = .ok (.iload_n 1, 1) := by decide +kernel
theorem dX7_heir_1 : decode cX7_heir 1 = .ok (.invokestatic 281, 3) := by decide +kernel
theorem dX7_heir_4 : decode cX7_heir 4 = .ok (.ifCond .eq 15, 3) := by decide +kernel
theorem dX7_heir_7 : decode cX7_heir 7 = .ok (.iload_n 2, 1) := by decide +kernel
theorem dX7_heir_8 : decode cX7_heir 8 = .ok (.invokestatic 281, 3) := by decide +kernel
theorem dX7_heir_11 : decode cX7_heir 11 = .ok (.ifCond .eq 8, 3) := by decide +kernel
theorem dX7_heir_14 : decode cX7_heir 14 = .ok (.iload_n 1, 1) := by decide +kernel
theorem dX7_heir_15 : decode cX7_heir 15 = .ok (.iload_n 2, 1) := by decide +kernel
theorem dX7_heir_16 : decode cX7_heir 16 = .ok (.if_icmp .ne 5, 3) := by decide +kernel
theorem dX7_heir_19 : decode cX7_heir 19 = .ok (.iconst (-1), 1) := by decide +kernel
theorem dX7_heir_20 : decode cX7_heir 20 = .ok (.ireturn, 1) := by decide +kernel
theorem dX7_heir_21 : decode cX7_heir 21 = .ok (.iconst 0, 1) := by decide +kernel
theorem dX7_heir_22 : decode cX7_heir 22 = .ok (.istore_n 3, 1) := by decide +kernel
theorem dX7_heir_23 : decode cX7_heir 23 = .ok (.iconst 0, 1) := by decide +kernel
theorem dX7_heir_24 : decode cX7_heir 24 = .ok (.istore 4, 2) := by decide +kernel
theorem dX7_heir_26 : decode cX7_heir 26 = .ok (.iload 4, 2) := by decide +kernel
theorem dX7_heir_28 : decode cX7_heir 28 = .ok (.aload_n 0, 1) := by decide +kernel
theorem dX7_heir_29 : decode cX7_heir 29 = .ok (.getfield 277, 3) := by decide +kernel
theorem dX7_heir_32 : decode cX7_heir 32 = .ok (.if_icmp .ge 63, 3) := by decide +kernel
theorem dX7_heir_35 : decode cX7_heir 35 = .ok (.aload_n 0, 1) := by decide +kernel
theorem dX7_heir_36 : decode cX7_heir 36 = .ok (.getfield 50, 3) := by decide +kernel
theorem dX7_heir_39 : decode cX7_heir 39 = .ok (.iload 4, 2) := by decide +kernel
theorem dX7_heir_41 : decode cX7_heir 41 = .ok (.iaload, 1) := by decide +kernel
theorem dX7_heir_42 : decode cX7_heir 42 = .ok (.iload_n 1, 1) := by decide +kernel
theorem dX7_heir_43 : decode cX7_heir 43 = .ok (.if_icmp .ne 46, 3) := by decide +kernel
theorem dX7_heir_46 : decode cX7_heir 46 = .ok (.aload_n 0, 1) := by decide +kernel
theorem dX7_heir_47 : decode cX7_heir 47 = .ok (.getfield 59, 3) := by decide +kernel
theorem dX7_heir_50 : decode cX7_heir 50 = .ok (.iload 4, 2) := by decide +kernel
theorem dX7_heir_52 : decode cX7_heir 52 = .ok (.iaload, 1) := by decide +kernel
theorem dX7_heir_53 : decode cX7_heir 53 = .ok (.ifCond .ne 6, 3) := by decide +kernel
theorem dX7_heir_56 : decode cX7_heir 56 = .ok (.goto 33, 3) := by decide +kernel
theorem dX7_heir_59 : decode cX7_heir 59 = .ok (.aload_n 0, 1) := by decide +kernel
theorem dX7_heir_60 : decode cX7_heir 60 = .ok (.getfield 50, 3) := by decide +kernel
theorem dX7_heir_63 : decode cX7_heir 63 = .ok (.iload 4, 2) := by decide +kernel
theorem dX7_heir_65 : decode cX7_heir 65 = .ok (.iload_n 2, 1) := by decide +kernel
theorem dX7_heir_66 : decode cX7_heir 66 = .ok (.iastore, 1) := by decide +kernel
theorem dX7_heir_67 : decode cX7_heir 67 = .ok (.aload_n 0, 1) := by decide +kernel
theorem dX7_heir_68 : decode cX7_heir 68 = .ok (.getfield 65, 3) := by decide +kernel
theorem dX7_heir_71 : decode cX7_heir 71 = .ok (.iload 4, 2) := by decide +kernel
theorem dX7_heir_73 : decode cX7_heir 73 = .ok (.iaload, 1) := by decide +kernel
theorem dX7_heir_74 : decode cX7_heir 74 = .ok (.iload_n 2, 1) := by decide +kernel
theorem dX7_heir_75 : decode cX7_heir 75 = .ok (.if_icmp .ne 11, 3) := by decide +kernel
theorem dX7_heir_78 : decode cX7_heir 78 = .ok (.aload_n 0, 1) := by decide +kernel
theorem dX7_heir_79 : decode cX7_heir 79 = .ok (.getfield 65, 3) := by decide +kernel
theorem dX7_heir_82 : decode cX7_heir 82 = .ok (.iload 4, 2) := by decide +kernel
theorem dX7_heir_84 : decode cX7_heir 84 = .ok (.iconst (-1), 1) := by decide +kernel
theorem dX7_heir_85 : decode cX7_heir 85 = .ok (.iastore, 1) := by decide +kernel
theorem dX7_heir_86 : decode cX7_heir 86 = .ok (.iinc 3 1, 3) := by decide +kernel
theorem dX7_heir_89 : decode cX7_heir 89 = .ok (.iinc 4 1, 3) := by decide +kernel
theorem dX7_heir_92 : decode cX7_heir 92 = .ok (.goto (-66), 3) := by decide +kernel
theorem dX7_heir_95 : decode cX7_heir 95 = .ok (.aload_n 0, 1) := by decide +kernel
theorem dX7_heir_96 : decode cX7_heir 96 = .ok (.getfield 71, 3) := by decide +kernel
theorem dX7_heir_99 : decode cX7_heir 99 = .ok (.iload_n 2, 1) := by decide +kernel
theorem dX7_heir_100 : decode cX7_heir 100 = .ok (.dup2, 1) := by decide +kernel
theorem dX7_heir_101 : decode cX7_heir 101 = .ok (.laload, 1) := by decide +kernel
theorem dX7_heir_102 : decode cX7_heir 102 = .ok (.aload_n 0, 1) := by decide +kernel
theorem dX7_heir_103 : decode cX7_heir 103 = .ok (.getfield 71, 3) := by decide +kernel
theorem dX7_heir_106 : decode cX7_heir 106 = .ok (.iload_n 1, 1) := by decide +kernel
theorem dX7_heir_107 : decode cX7_heir 107 = .ok (.laload, 1) := by decide +kernel
theorem dX7_heir_108 : decode cX7_heir 108 = .ok (.ladd, 1) := by decide +kernel
theorem dX7_heir_109 : decode cX7_heir 109 = .ok (.lastore, 1) := by decide +kernel
theorem dX7_heir_110 : decode cX7_heir 110 = .ok (.aload_n 0, 1) := by decide +kernel
theorem dX7_heir_111 : decode cX7_heir 111 = .ok (.getfield 71, 3) := by decide +kernel
theorem dX7_heir_114 : decode cX7_heir 114 = .ok (.iload_n 1, 1) := by decide +kernel
theorem dX7_heir_115 : decode cX7_heir 115 = .ok (.lconst 0, 1) := by decide +kernel
theorem dX7_heir_116 : decode cX7_heir 116 = .ok (.lastore, 1) := by decide +kernel
theorem dX7_heir_117 : decode cX7_heir 117 = .ok (.iload_n 3, 1) := by decide +kernel
theorem dX7_heir_118 : decode cX7_heir 118 = .ok (.ireturn, 1) := by decide +kernel
set_option maxRecDepth 20000 in
theorem ggX7_about_X7_isDebt : GoodIn wsX7_about wsX7_isDebt := goodIn_r _ [12, 13, 14, 15, 11, 16, 17, 18, 19, 20, 21, 22, 23, 24, 25, 26, 27, 28, 29, 30, 31, 32, 33, 34, 35, 36, 37, 38, 39, 40, 41, 42, 43, 44, 45, 46, 47, 48, 49, 50, 51, 52, 53, 54, 55, 56, 57, 58, 59, 60, 61, 62, 63, 64, 65, 66, 67, 68, 69, 70, 71, 72] (by decide +kernel) (by decide +kernel)
set_option maxRecDepth 20000 in
theorem gX7_about_X7_isDebt : GoodIn wsX7_about (wsV RX7 308 RX7 yX7_isDebt wsX7_isDebt) := goodIn_app (goodIn_of _ (by decide +kernel)) ggX7_about_X7_isDebt
theorem dX7_about_0 : decode cX7_about 0 = .ok (.aload_n 0, 1) := by decide +kernel
theorem dX7_about_1 : decode cX7_about 1 = .ok (.iload_n 1, 1) := by decide +kernel
theorem dX7_about_2 : decode cX7_about 2 = .ok (.invokevirtual 308, 3) := by decide +kernel
theorem dX7_about_5 : decode cX7_about 5 = .ok (.ifCond .ne 6, 3) := by decide +kernel
theorem dX7_about_8 : decode cX7_about 8 = .ok (.bipush (-2), 2) := by decide +kernel
theorem dX7_about_10 : decode cX7_about 10 = .ok (.ireturn, 1) := by decide +kernel
theorem dX7_about_11 : decode cX7_about 11 = .ok (.iload_n 2, 1) := by decide +kernel
theorem dX7_about_12 : decode cX7_about 12 = .ok (.tableswitch 93 0 6 #[44, 51, 58, 65, 72, 79, 86], 44) := by decide +kernel
theorem dX7_about_56 : decode cX7_about 56 = .ok (.aload_n 0, 1) := by decide +kernel
theorem dX7_about_57 : decode cX7_about 57 = .ok (.getfield 50, 3) := by decide +kernel
theorem dX7_about_60 : decode cX7_about 60 = .ok (.iload_n 1, 1) := by decide +kernel
theorem dX7_about_61 : decode cX7_about 61 = .ok (.iaload, 1) := by decide +kernel
theorem dX7_about_62 : decode cX7_about 62 = .ok (.ireturn, 1) := by decide +kernel
theorem dX7_about_63 : decode cX7_about 63 = .ok (.aload_n 0, 1) := by decide +kernel
theorem dX7_about_64 : decode cX7_about 64 = .ok (.getfield 53, 3) := by decide +kernel
theorem dX7_about_67 : decode cX7_about 67 = .ok (.iload_n 1, 1) := by decide +kernel
theorem dX7_about_68 : decode cX7_about 68 = .ok (.iaload, 1) := by decide +kernel
theorem dX7_about_69 : decode cX7_about 69 = .ok (.ireturn, 1) := by decide +kernel
theorem dX7_about_70 : decode cX7_about 70 = .ok (.aload_n 0, 1) := by decide +kernel
theorem dX7_about_71 : decode cX7_about 71 = .ok (.getfield 56, 3) := by decide +kernel
theorem dX7_about_74 : decode cX7_about 74 = .ok (.iload_n 1, 1) := by decide +kernel
theorem dX7_about_75 : decode cX7_about 75 = .ok (.iaload, 1) := by decide +kernel
theorem dX7_about_76 : decode cX7_about 76 = .ok (.ireturn, 1) := by decide +kernel
theorem dX7_about_77 : decode cX7_about 77 = .ok (.aload_n 0, 1) := by decide +kernel
theorem dX7_about_78 : decode cX7_about 78 = .ok (.getfield 59, 3) := by decide +kernel
theorem dX7_about_81 : decode cX7_about 81 = .ok (.iload_n 1, 1) := by decide +kernel
theorem dX7_about_82 : decode cX7_about 82 = .ok (.iaload, 1) := by decide +kernel
theorem dX7_about_83 : decode cX7_about 83 = .ok (.ireturn, 1) := by decide +kernel
theorem dX7_about_84 : decode cX7_about 84 = .ok (.aload_n 0, 1) := by decide +kernel
theorem dX7_about_85 : decode cX7_about 85 = .ok (.getfield 62, 3) := by decide +kernel
theorem dX7_about_88 : decode cX7_about 88 = .ok (.iload_n 1, 1) := by decide +kernel
theorem dX7_about_89 : decode cX7_about 89 = .ok (.iaload, 1) := by decide +kernel
theorem dX7_about_90 : decode cX7_about 90 = .ok (.ireturn, 1) := by decide +kernel
theorem dX7_about_91 : decode cX7_about 91 = .ok (.aload_n 0, 1) := by decide +kernel
theorem dX7_about_92 : decode cX7_about 92 = .ok (.getfield 65, 3) := by decide +kernel
theorem dX7_about_95 : decode cX7_about 95 = .ok (.iload_n 1, 1) := by decide +kernel
theorem dX7_about_96 : decode cX7_about 96 = .ok (.iaload, 1) := by decide +kernel
theorem dX7_about_97 : decode cX7_about 97 = .ok (.ireturn, 1) := by decide +kernel
theorem dX7_about_98 : decode cX7_about 98 = .ok (.aload_n 0, 1) := by decide +kernel
theorem dX7_about_99 : decode cX7_about 99 = .ok (.getfield 68, 3) := by decide +kernel
theorem dX7_about_102 : decode cX7_about 102 = .ok (.iload_n 1, 1) := by decide +kernel
theorem dX7_about_103 : decode cX7_about 103 = .ok (.iaload, 1) := by decide +kernel
theorem dX7_about_104 : decode cX7_about 104 = .ok (.ireturn, 1) := by decide +kernel
theorem dX7_about_105 : decode cX7_about 105 = .ok (.bipush (-2), 2) := by decide +kernel
theorem dX7_about_107 : decode cX7_about 107 = .ok (.ireturn, 1) := by decide +kernel
set_option maxRecDepth 20000 in
theorem ggX7_owe_X7_isPerson : GoodIn wsX7_owe wsX7_isPerson := goodIn_r _ [9, 10, 11, 8, 12] (by decide +kernel) (by decide +kernel)
set_option maxRecDepth 20000 in
theorem gX7_owe_X7_isPerson : GoodIn wsX7_owe (va_wsS RX7 281 yX7_isPerson wsX7_isPerson) := goodIn_app (goodIn_of _ (by decide +kernel)) ggX7_owe_X7_isPerson
set_option maxRecDepth 20000 in
theorem ggX7_owe_X7_allOf : GoodIn wsX7_owe wsX7_allOf := goodIn_r _ [16, 17, 18, 19, 24, 25, 26, 27, 28, 29, 30, 31, 32, 33, 34, 35, 36, 37, 38, 39, 40, 41, 42, 43, 44, 45, 46, 47, 48, 49, 50, 51, 52, 53, 54, 55, 56, 57, 58, 59, 60, 61, 62, 63, 64, 65, 66, 67, 68, 69, 70, 71, 72, 73, 74, 75, 76, 77, 78, 79] (by decide +kernel) (by decide +kernel)
set_option maxRecDepth 20000 in
theorem gX7_owe_X7_allOf : GoodIn wsX7_owe (wsV RX7 289 RX7 yX7_allOf wsX7_allOf) := goodIn_app (goodIn_of _ (by decide +kernel)) ggX7_owe_X7_allOf
set_option maxRecDepth 20000 in
theorem ggX7_owe_X7_owedOf : GoodIn wsX7_owe wsX7_owedOf := goodIn_r _ [23, 17, 18, 19, 24, 25, 26, 27, 28, 29, 30, 31, 32, 33, 34, 35, 36, 37, 38, 39, 40, 41, 42, 43, 44, 45, 46, 47, 48, 49, 50, 51, 52, 53, 54, 55, 56, 57, 58, 59, 60, 61, 62, 63, 64, 65, 66, 67, 68, 69, 70, 71, 72, 73, 74, 75, 76, 77, 78, 79] (by decide +kernel) (by decide +kernel)
set_option maxRecDepth 20000 in
theorem gX7_owe_X7_owedOf : GoodIn wsX7_owe (wsV RX7 316 RX7 yX7_owedOf wsX7_owedOf) := goodIn_app (goodIn_of _ (by decide +kernel)) ggX7_owe_X7_owedOf
theorem dX7_owe_0 : decode cX7_owe 0 = .ok (.iload_n 1, 1) := by decide +kernel
theorem dX7_owe_1 : decode cX7_owe 1 = .ok (.invokestatic 281, 3) := by decide +kernel
theorem dX7_owe_4 : decode cX7_owe 4 = .ok (.ifCond .ne 7, 3) := by decide +kernel
theorem dX7_owe_7 : decode cX7_owe 7 = .ok (.ldc2_w 338, 3) := by decide +kernel
theorem dX7_owe_10 : decode cX7_owe 10 = .ok (.lreturn, 1) := by decide +kernel
theorem dX7_owe_11 : decode cX7_owe 11 = .ok (.iload_n 2, 1) := by decide +kernel
theorem dX7_owe_12 : decode cX7_owe 12 = .ok (.tableswitch 90 0 4 #[36, 42, 49, 64, 71], 36) := by decide +kernel
theorem dX7_owe_48 : decode cX7_owe 48 = .ok (.aload_n 0, 1) := by decide +kernel
theorem dX7_owe_49 : decode cX7_owe 49 = .ok (.iload_n 1, 1) := by decide +kernel
theorem dX7_owe_50 : decode cX7_owe 50 = .ok (.invokevirtual 289, 3) := by decide +kernel
theorem dX7_owe_53 : decode cX7_owe 53 = .ok (.lreturn, 1) := by decide +kernel
theorem dX7_owe_54 : decode cX7_owe 54 = .ok (.aload_n 0, 1) := by decide +kernel
theorem dX7_owe_55 : decode cX7_owe 55 = .ok (.getfield 71, 3) := by decide +kernel
theorem dX7_owe_58 : decode cX7_owe 58 = .ok (.iload_n 1, 1) := by decide +kernel
theorem dX7_owe_59 : decode cX7_owe 59 = .ok (.laload, 1) := by decide +kernel
theorem dX7_owe_60 : decode cX7_owe 60 = .ok (.lreturn, 1) := by decide +kernel
theorem dX7_owe_61 : decode cX7_owe 61 = .ok (.aload_n 0, 1) := by decide +kernel
theorem dX7_owe_62 : decode cX7_owe 62 = .ok (.getfield 75, 3) := by decide +kernel
theorem dX7_owe_65 : decode cX7_owe 65 = .ok (.iload_n 1, 1) := by decide +kernel
theorem dX7_owe_66 : decode cX7_owe 66 = .ok (.baload, 1) := by decide +kernel
theorem dX7_owe_67 : decode cX7_owe 67 = .ok (.ifCond .eq 7, 3) := by decide +kernel
theorem dX7_owe_70 : decode cX7_owe 70 = .ok (.lconst 1, 1) := by decide +kernel
theorem dX7_owe_71 : decode cX7_owe 71 = .ok (.goto 4, 3) := by decide +kernel
theorem dX7_owe_74 : decode cX7_owe 74 = .ok (.lconst 0, 1) := by decide +kernel
theorem dX7_owe_75 : decode cX7_owe 75 = .ok (.lreturn, 1) := by decide +kernel
theorem dX7_owe_76 : decode cX7_owe 76 = .ok (.aload_n 0, 1) := by decide +kernel
theorem dX7_owe_77 : decode cX7_owe 77 = .ok (.iload_n 1, 1) := by decide +kernel
theorem dX7_owe_78 : decode cX7_owe 78 = .ok (.invokevirtual 316, 3) := by decide +kernel
theorem dX7_owe_81 : decode cX7_owe 81 = .ok (.i2l, 1) := by decide +kernel
theorem dX7_owe_82 : decode cX7_owe 82 = .ok (.lreturn, 1) := by decide +kernel
theorem dX7_owe_83 : decode cX7_owe 83 = .ok (.aload_n 0, 1) := by decide +kernel
theorem dX7_owe_84 : decode cX7_owe 84 = .ok (.getfield 79, 3) := by decide +kernel
theorem dX7_owe_87 : decode cX7_owe 87 = .ok (.iload_n 1, 1) := by decide +kernel
theorem dX7_owe_88 : decode cX7_owe 88 = .ok (.iaload, 1) := by decide +kernel
theorem dX7_owe_89 : decode cX7_owe 89 = .ok (.aload_n 0, 1) := by decide +kernel
theorem dX7_owe_90 : decode cX7_owe 90 = .ok (.getfield 267, 3) := by decide +kernel
theorem dX7_owe_93 : decode cX7_owe 93 = .ok (.if_icmp .ne 7, 3) := by decide +kernel
theorem dX7_owe_96 : decode cX7_owe 96 = .ok (.lconst 1, 1) := by decide +kernel
theorem dX7_owe_97 : decode cX7_owe 97 = .ok (.goto 4, 3) := by decide +kernel
theorem dX7_owe_100 : decode cX7_owe 100 = .ok (.lconst 0, 1) := by decide +kernel
theorem dX7_owe_101 : decode cX7_owe 101 = .ok (.lreturn, 1) := by decide +kernel
theorem dX7_owe_102 : decode cX7_owe 102 = .ok (.ldc2_w 338, 3) := by decide +kernel
theorem dX7_owe_105 : decode cX7_owe 105 = .ok (.lreturn, 1) := by decide +kernel
set_option maxRecDepth 20000 in
theorem ggX7_line_X7_in : GoodIn wsX7_line wsX7_in := goodIn_r _ [13] (by decide +kernel) (by decide +kernel)
set_option maxRecDepth 20000 in
theorem gX7_line_X7_in : GoodIn wsX7_line (va_wsS RX7 132 yX7_in wsX7_in) := goodIn_app (goodIn_of _ (by decide +kernel)) ggX7_line_X7_in
theorem dX7_line_0 : decode cX7_line 0 = .ok (.iload_n 1, 1) := by decide +kernel
theorem dX7_line_1 : decode cX7_line 1 = .ok (.iconst 0, 1) := by decide +kernel
theorem dX7_line_2 : decode cX7_line 2 = .ok (.aload_n 0, 1) := by decide +kernel
theorem dX7_line_3 : decode cX7_line 3 = .ok (.getfield 319, 3) := by decide +kernel
theorem dX7_line_6 : decode cX7_line 6 = .ok (.iconst 1, 1) := by decide +kernel
theorem dX7_line_7 : decode cX7_line 7 = .ok (.isub, 1) := by decide +kernel
theorem dX7_line_8 : decode cX7_line 8 = .ok (.invokestatic 132, 3) := by decide +kernel
theorem dX7_line_11 : decode cX7_line 11 = .ok (.ifCond .ne 6, 3) := by decide +kernel
theorem dX7_line_14 : decode cX7_line 14 = .ok (.bipush (-2), 2) := by decide +kernel
theorem dX7_line_16 : decode cX7_line 16 = .ok (.ireturn, 1) := by decide +kernel
theorem dX7_line_17 : decode cX7_line 17 = .ok (.iload_n 2, 1) := by decide +kernel
theorem dX7_line_18 : decode cX7_line 18 = .ok (.tableswitch 102 0 7 #[46, 53, 60, 67, 74, 81, 88, 95], 46) := by decide +kernel
theorem dX7_line_64 : decode cX7_line 64 = .ok (.aload_n 0, 1) := by decide +kernel
theorem dX7_line_65 : decode cX7_line 65 = .ok (.getfield 85, 3) := by decide +kernel
theorem dX7_line_68 : decode cX7_line 68 = .ok (.iload_n 1, 1) := by decide +kernel
theorem dX7_line_69 : decode cX7_line 69 = .ok (.iaload, 1) := by decide +kernel
theorem dX7_line_70 : decode cX7_line 70 = .ok (.ireturn, 1) := by decide +kernel
theorem dX7_line_71 : decode cX7_line 71 = .ok (.aload_n 0, 1) := by decide +kernel
theorem dX7_line_72 : decode cX7_line 72 = .ok (.getfield 88, 3) := by decide +kernel
theorem dX7_line_75 : decode cX7_line 75 = .ok (.iload_n 1, 1) := by decide +kernel
theorem dX7_line_76 : decode cX7_line 76 = .ok (.iaload, 1) := by decide +kernel
theorem dX7_line_77 : decode cX7_line 77 = .ok (.ireturn, 1) := by decide +kernel
theorem dX7_line_78 : decode cX7_line 78 = .ok (.aload_n 0, 1) := by decide +kernel
theorem dX7_line_79 : decode cX7_line 79 = .ok (.getfield 91, 3) := by decide +kernel
theorem dX7_line_82 : decode cX7_line 82 = .ok (.iload_n 1, 1) := by decide +kernel
theorem dX7_line_83 : decode cX7_line 83 = .ok (.iaload, 1) := by decide +kernel
theorem dX7_line_84 : decode cX7_line 84 = .ok (.ireturn, 1) := by decide +kernel
theorem dX7_line_85 : decode cX7_line 85 = .ok (.aload_n 0, 1) := by decide +kernel
theorem dX7_line_86 : decode cX7_line 86 = .ok (.getfield 94, 3) := by decide +kernel
theorem dX7_line_89 : decode cX7_line 89 = .ok (.iload_n 1, 1) := by decide +kernel
theorem dX7_line_90 : decode cX7_line 90 = .ok (.iaload, 1) := by decide +kernel
theorem dX7_line_91 : decode cX7_line 91 = .ok (.ireturn, 1) := by decide +kernel
theorem dX7_line_92 : decode cX7_line 92 = .ok (.aload_n 0, 1) := by decide +kernel
theorem dX7_line_93 : decode cX7_line 93 = .ok (.getfield 97, 3) := by decide +kernel
theorem dX7_line_96 : decode cX7_line 96 = .ok (.iload_n 1, 1) := by decide +kernel
theorem dX7_line_97 : decode cX7_line 97 = .ok (.iaload, 1) := by decide +kernel
theorem dX7_line_98 : decode cX7_line 98 = .ok (.ireturn, 1) := by decide +kernel
theorem dX7_line_99 : decode cX7_line 99 = .ok (.aload_n 0, 1) := by decide +kernel
theorem dX7_line_100 : decode cX7_line 100 = .ok (.getfield 100, 3) := by decide +kernel
theorem dX7_line_103 : decode cX7_line 103 = .ok (.iload_n 1, 1) := by decide +kernel
theorem dX7_line_104 : decode cX7_line 104 = .ok (.iaload, 1) := by decide +kernel
theorem dX7_line_105 : decode cX7_line 105 = .ok (.ireturn, 1) := by decide +kernel
theorem dX7_line_106 : decode cX7_line 106 = .ok (.aload_n 0, 1) := by decide +kernel
theorem dX7_line_107 : decode cX7_line 107 = .ok (.getfield 103, 3) := by decide +kernel
theorem dX7_line_110 : decode cX7_line 110 = .ok (.iload_n 1, 1) := by decide +kernel
theorem dX7_line_111 : decode cX7_line 111 = .ok (.iaload, 1) := by decide +kernel
theorem dX7_line_112 : decode cX7_line 112 = .ok (.ireturn, 1) := by decide +kernel
theorem dX7_line_113 : decode cX7_line 113 = .ok (.aload_n 0, 1) := by decide +kernel
theorem dX7_line_114 : decode cX7_line 114 = .ok (.getfield 106, 3) := by decide +kernel
theorem dX7_line_117 : decode cX7_line 117 = .ok (.iload_n 1, 1) := by decide +kernel
theorem dX7_line_118 : decode cX7_line 118 = .ok (.iaload, 1) := by decide +kernel
theorem dX7_line_119 : decode cX7_line 119 = .ok (.ireturn, 1) := by decide +kernel
theorem dX7_line_120 : decode cX7_line 120 = .ok (.bipush (-2), 2) := by decide +kernel
theorem dX7_line_122 : decode cX7_line 122 = .ok (.ireturn, 1) := by decide +kernel
set_option maxRecDepth 20000 in
theorem ggX7_as_X7_isDebt : GoodIn wsX7_as wsX7_isDebt := goodIn_r _ [12, 13, 14, 15, 11, 16, 17, 18, 19, 20, 21, 22, 23, 24, 25, 26, 27, 28, 29, 30, 31, 32, 33, 34, 35, 36, 37, 38, 39, 40, 41, 42, 43, 44, 45, 46, 47, 48, 49, 50, 51, 52, 53, 54, 55, 56, 57, 58, 59, 60, 61, 62, 63, 64, 65, 66, 67, 68, 69, 70, 71, 72] (by decide +kernel) (by decide +kernel)
set_option maxRecDepth 20000 in
theorem gX7_as_X7_isDebt : GoodIn wsX7_as (wsV RX7 308 RX7 yX7_isDebt wsX7_isDebt) := goodIn_app (goodIn_of _ (by decide +kernel)) ggX7_as_X7_isDebt
set_option maxRecDepth 20000 in
theorem ggX7_as_X7_in : GoodIn wsX7_as wsX7_in := goodIn_r _ [16] (by decide +kernel) (by decide +kernel)
set_option maxRecDepth 20000 in
theorem gX7_as_X7_in : GoodIn wsX7_as (va_wsS RX7 132 yX7_in wsX7_in) := goodIn_app (goodIn_of _ (by decide +kernel)) ggX7_as_X7_in
theorem dX7_as_0 : decode cX7_as 0 = .ok (.aload_n 0, 1) := by decide +kernel
theorem dX7_as_1 : decode cX7_as 1 = .ok (.iload_n 1, 1) := by decide +kernel
theorem dX7_as_2 : decode cX7_as 2 = .ok (.invokevirtual 308, 3) := by decide +kernel
theorem dX7_as_5 : decode cX7_as 5 = .ok (.ifCond .eq 15, 3) := by decide +kernel
theorem dX7_as_8 : decode cX7_as 8 = .ok (.iload_n 2, 1) := by decide +kernel
theorem dX7_as_9 : decode cX7_as 9 = .ok (.iconst 0, 1) := by decide +kernel
theorem dX7_as_10 : decode cX7_as 10 = .ok (.aload_n 0, 1) := by decide +kernel
theorem dX7_as_11 : decode cX7_as 11 = .ok (.getfield 267, 3) := by decide +kernel
theorem dX7_as_14 : decode cX7_as 14 = .ok (.invokestatic 132, 3) := by decide +kernel
theorem dX7_as_17 : decode cX7_as 17 = .ok (.ifCond .ne 6, 3) := by decide +kernel
theorem dX7_as_20 : decode cX7_as 20 = .ok (.bipush (-2), 2) := by decide +kernel
theorem dX7_as_22 : decode cX7_as 22 = .ok (.ireturn, 1) := by decide +kernel
theorem dX7_as_23 : decode cX7_as 23 = .ok (.aload_n 0, 1) := by decide +kernel
theorem dX7_as_24 : decode cX7_as 24 = .ok (.getfield 62, 3) := by decide +kernel
theorem dX7_as_27 : decode cX7_as 27 = .ok (.iload_n 1, 1) := by decide +kernel
theorem dX7_as_28 : decode cX7_as 28 = .ok (.iaload, 1) := by decide +kernel
theorem dX7_as_29 : decode cX7_as 29 = .ok (.iload_n 2, 1) := by decide +kernel
theorem dX7_as_30 : decode cX7_as 30 = .ok (.if_icmp .le 5, 3) := by decide +kernel
theorem dX7_as_33 : decode cX7_as 33 = .ok (.iconst (-1), 1) := by decide +kernel
theorem dX7_as_34 : decode cX7_as 34 = .ok (.ireturn, 1) := by decide +kernel
theorem dX7_as_35 : decode cX7_as 35 = .ok (.aload_n 0, 1) := by decide +kernel
theorem dX7_as_36 : decode cX7_as 36 = .ok (.getfield 56, 3) := by decide +kernel
theorem dX7_as_39 : decode cX7_as 39 = .ok (.iload_n 1, 1) := by decide +kernel
theorem dX7_as_40 : decode cX7_as 40 = .ok (.iaload, 1) := by decide +kernel
theorem dX7_as_41 : decode cX7_as 41 = .ok (.istore_n 3, 1) := by decide +kernel
theorem dX7_as_42 : decode cX7_as 42 = .ok (.iconst 0, 1) := by decide +kernel
theorem dX7_as_43 : decode cX7_as 43 = .ok (.istore 4, 2) := by decide +kernel
theorem dX7_as_45 : decode cX7_as 45 = .ok (.iload 4, 2) := by decide +kernel
theorem dX7_as_47 : decode cX7_as 47 = .ok (.aload_n 0, 1) := by decide +kernel
theorem dX7_as_48 : decode cX7_as 48 = .ok (.getfield 319, 3) := by decide +kernel
theorem dX7_as_51 : decode cX7_as 51 = .ok (.if_icmp .ge 45, 3) := by decide +kernel
theorem dX7_as_54 : decode cX7_as 54 = .ok (.iload_n 3, 1) := by decide +kernel
theorem dX7_as_55 : decode cX7_as 55 = .ok (.aload_n 0, 1) := by decide +kernel
theorem dX7_as_56 : decode cX7_as 56 = .ok (.getfield 91, 3) := by decide +kernel
theorem dX7_as_59 : decode cX7_as 59 = .ok (.iload 4, 2) := by decide +kernel
theorem dX7_as_61 : decode cX7_as 61 = .ok (.iaload, 1) := by decide +kernel
theorem dX7_as_62 : decode cX7_as 62 = .ok (.iload_n 1, 1) := by decide +kernel
theorem dX7_as_63 : decode cX7_as 63 = .ok (.if_icmp .ne 24, 3) := by decide +kernel
theorem dX7_as_66 : decode cX7_as 66 = .ok (.aload_n 0, 1) := by decide +kernel
theorem dX7_as_67 : decode cX7_as 67 = .ok (.getfield 85, 3) := by decide +kernel
theorem dX7_as_70 : decode cX7_as 70 = .ok (.iload 4, 2) := by decide +kernel
theorem dX7_as_72 : decode cX7_as 72 = .ok (.iaload, 1) := by decide +kernel
theorem dX7_as_73 : decode cX7_as 73 = .ok (.iload_n 2, 1) := by decide +kernel
theorem dX7_as_74 : decode cX7_as 74 = .ok (.if_icmp .gt 13, 3) := by decide +kernel
theorem dX7_as_77 : decode cX7_as 77 = .ok (.aload_n 0, 1) := by decide +kernel
theorem dX7_as_78 : decode cX7_as 78 = .ok (.getfield 109, 3) := by decide +kernel
theorem dX7_as_81 : decode cX7_as 81 = .ok (.iload 4, 2) := by decide +kernel
theorem dX7_as_83 : decode cX7_as 83 = .ok (.iaload, 1) := by decide +kernel
theorem dX7_as_84 : decode cX7_as 84 = .ok (.goto 4, 3) := by decide +kernel
theorem dX7_as_87 : decode cX7_as 87 = .ok (.iconst 0, 1) := by decide +kernel
theorem dX7_as_88 : decode cX7_as 88 = .ok (.isub, 1) := by decide +kernel
theorem dX7_as_89 : decode cX7_as 89 = .ok (.istore_n 3, 1) := by decide +kernel
theorem dX7_as_90 : decode cX7_as 90 = .ok (.iinc 4 1, 3) := by decide +kernel
theorem dX7_as_93 : decode cX7_as 93 = .ok (.goto (-48), 3) := by decide +kernel
theorem dX7_as_96 : decode cX7_as 96 = .ok (.iload_n 3, 1) := by decide +kernel
theorem dX7_as_97 : decode cX7_as 97 = .ok (.ireturn, 1) := by decide +kernel
theorem dX7_worthOf_0 : decode cX7_worthOf 0 = .ok (.iload_n 0, 1) := by decide +kernel
theorem dX7_worthOf_1 : decode cX7_worthOf 1 = .ok (.tableswitch 52 0 4 #[35, 37, 40, 44, 48], 35) := by decide +kernel
theorem dX7_worthOf_36 : decode cX7_worthOf 36 = .ok (.iconst 1, 1) := by decide +kernel
theorem dX7_worthOf_37 : decode cX7_worthOf 37 = .ok (.ireturn, 1) := by decide +kernel
theorem dX7_worthOf_38 : decode cX7_worthOf 38 = .ok (.bipush 12, 2) := by decide +kernel
theorem dX7_worthOf_40 : decode cX7_worthOf 40 = .ok (.ireturn, 1) := by decide +kernel
theorem dX7_worthOf_41 : decode cX7_worthOf 41 = .ok (.sipush 240, 3) := by decide +kernel
theorem dX7_worthOf_44 : decode cX7_worthOf 44 = .ok (.ireturn, 1) := by decide +kernel
theorem dX7_worthOf_45 : decode cX7_worthOf 45 = .ok (.sipush 4800, 3) := by decide +kernel
theorem dX7_worthOf_48 : decode cX7_worthOf 48 = .ok (.ireturn, 1) := by decide +kernel
theorem dX7_worthOf_49 : decode cX7_worthOf 49 = .ok (.sipush 24000, 3) := by decide +kernel
theorem dX7_worthOf_52 : decode cX7_worthOf 52 = .ok (.ireturn, 1) := by decide +kernel
theorem dX7_worthOf_53 : decode cX7_worthOf 53 = .ok (.ldc_w 340, 3) := by decide +kernel
theorem dX7_worthOf_56 : decode cX7_worthOf 56 = .ok (.ireturn, 1) := by decide +kernel
set_option maxRecDepth 20000 in
theorem ggX7_notch_X7_worthOf : GoodIn wsX7_notch wsX7_worthOf := goodIn_r _ [5, 1] (by decide +kernel) (by decide +kernel)
set_option maxRecDepth 20000 in
theorem gX7_notch_X7_worthOf : GoodIn wsX7_notch (va_wsS RX7 341 yX7_worthOf wsX7_worthOf) := goodIn_app (goodIn_of _ (by decide +kernel)) ggX7_notch_X7_worthOf
theorem dX7_notch_0 : decode cX7_notch 0 = .ok (.iload_n 1, 1) := by decide +kernel
theorem dX7_notch_1 : decode cX7_notch 1 = .ok (.iconst 5, 1) := by decide +kernel
theorem dX7_notch_2 : decode cX7_notch 2 = .ok (.if_icmp .ne 11, 3) := by decide +kernel
theorem dX7_notch_5 : decode cX7_notch 5 = .ok (.iload_n 0, 1) := by decide +kernel
theorem dX7_notch_6 : decode cX7_notch 6 = .ok (.ldc_w 340, 3) := by decide +kernel
theorem dX7_notch_9 : decode cX7_notch 9 = .ok (.idiv, 1) := by decide +kernel
theorem dX7_notch_10 : decode cX7_notch 10 = .ok (.goto 16, 3) := by decide +kernel
theorem dX7_notch_13 : decode cX7_notch 13 = .ok (.iload_n 0, 1) := by decide +kernel
theorem dX7_notch_14 : decode cX7_notch 14 = .ok (.iload_n 1, 1) := by decide +kernel
theorem dX7_notch_15 : decode cX7_notch 15 = .ok (.iconst 1, 1) := by decide +kernel
theorem dX7_notch_16 : decode cX7_notch 16 = .ok (.iadd, 1) := by decide +kernel
theorem dX7_notch_17 : decode cX7_notch 17 = .ok (.invokestatic 341, 3) := by decide +kernel
theorem dX7_notch_20 : decode cX7_notch 20 = .ok (.irem, 1) := by decide +kernel
theorem dX7_notch_21 : decode cX7_notch 21 = .ok (.iload_n 1, 1) := by decide +kernel
theorem dX7_notch_22 : decode cX7_notch 22 = .ok (.invokestatic 341, 3) := by decide +kernel
theorem dX7_notch_25 : decode cX7_notch 25 = .ok (.idiv, 1) := by decide +kernel
theorem dX7_notch_26 : decode cX7_notch 26 = .ok (.ireturn, 1) := by decide +kernel
set_option maxRecDepth 20000 in
theorem ggX7_stick_X7_in : GoodIn wsX7_stick wsX7_in := goodIn_r _ [6] (by decide +kernel) (by decide +kernel)
set_option maxRecDepth 20000 in
theorem gX7_stick_X7_in : GoodIn wsX7_stick (va_wsS RX7 132 yX7_in wsX7_in) := goodIn_app (goodIn_of _ (by decide +kernel)) ggX7_stick_X7_in
set_option maxRecDepth 20000 in
theorem ggX7_stick_X7_notch : GoodIn wsX7_stick wsX7_notch := goodIn_r _ [9, 10, 11, 12, 5, 13] (by decide +kernel) (by decide +kernel)
set_option maxRecDepth 20000 in
theorem gX7_stick_X7_notch : GoodIn wsX7_stick (va_wsS RX7 344 yX7_notch wsX7_notch) := goodIn_app (goodIn_of _ (by decide +kernel)) ggX7_stick_X7_notch
theorem dX7_stick_0 : decode cX7_stick 0 = .ok (.iload_n 1, 1) := by decide +kernel
theorem dX7_stick_1 : decode cX7_stick 1 = .ok (.iconst 0, 1) := by decide +kernel
theorem dX7_stick_2 : decode cX7_stick 2 = .ok (.aload_n 0, 1) := by decide +kernel
theorem dX7_stick_3 : decode cX7_stick 3 = .ok (.getfield 322, 3) := by decide +kernel
theorem dX7_stick_6 : decode cX7_stick 6 = .ok (.iconst 1, 1) := by decide +kernel
theorem dX7_stick_7 : decode cX7_stick 7 = .ok (.isub, 1) := by decide +kernel
theorem dX7_stick_8 : decode cX7_stick 8 = .ok (.invokestatic 132, 3) := by decide +kernel
theorem dX7_stick_11 : decode cX7_stick 11 = .ok (.ifCond .eq 12, 3) := by decide +kernel
theorem dX7_stick_14 : decode cX7_stick 14 = .ok (.iload_n 2, 1) := by decide +kernel
theorem dX7_stick_15 : decode cX7_stick 15 = .ok (.iconst (-1), 1) := by decide +kernel
theorem dX7_stick_16 : decode cX7_stick 16 = .ok (.iconst 5, 1) := by decide +kernel
theorem dX7_stick_17 : decode cX7_stick 17 = .ok (.invokestatic 132, 3) := by decide +kernel
theorem dX7_stick_20 : decode cX7_stick 20 = .ok (.ifCond .ne 7, 3) := by decide +kernel
theorem dX7_stick_23 : decode cX7_stick 23 = .ok (.iconst (-1), 1) := by decide +kernel
theorem dX7_stick_24 : decode cX7_stick 24 = .ok (.goto 26, 3) := by decide +kernel
theorem dX7_stick_27 : decode cX7_stick 27 = .ok (.iload_n 2, 1) := by decide +kernel
theorem dX7_stick_28 : decode cX7_stick 28 = .ok (.ifCond .ge 12, 3) := by decide +kernel
theorem dX7_stick_31 : decode cX7_stick 31 = .ok (.aload_n 0, 1) := by decide +kernel
theorem dX7_stick_32 : decode cX7_stick 32 = .ok (.getfield 112, 3) := by decide +kernel
theorem dX7_stick_35 : decode cX7_stick 35 = .ok (.iload_n 1, 1) := by decide +kernel
theorem dX7_stick_36 : decode cX7_stick 36 = .ok (.iaload, 1) := by decide +kernel
theorem dX7_stick_37 : decode cX7_stick 37 = .ok (.goto 13, 3) := by decide +kernel
theorem dX7_stick_40 : decode cX7_stick 40 = .ok (.aload_n 0, 1) := by decide +kernel
theorem dX7_stick_41 : decode cX7_stick 41 = .ok (.getfield 112, 3) := by decide +kernel
theorem dX7_stick_44 : decode cX7_stick 44 = .ok (.iload_n 1, 1) := by decide +kernel
theorem dX7_stick_45 : decode cX7_stick 45 = .ok (.iaload, 1) := by decide +kernel
theorem dX7_stick_46 : decode cX7_stick 46 = .ok (.iload_n 2, 1) := by decide +kernel
theorem dX7_stick_47 : decode cX7_stick 47 = .ok (.invokestatic 344, 3) := by decide +kernel
theorem dX7_stick_50 : decode cX7_stick 50 = .ok (.ireturn, 1) := by decide +kernel
set_option maxRecDepth 20000 in
theorem ggX7_fits_X7_in : GoodIn wsX7_fits wsX7_in := goodIn_r _ [7] (by decide +kernel) (by decide +kernel)
set_option maxRecDepth 20000 in
theorem gX7_fits_X7_in : GoodIn wsX7_fits (va_wsS RX7 132 yX7_in wsX7_in) := goodIn_app (goodIn_of _ (by decide +kernel)) ggX7_fits_X7_in
set_option maxRecDepth 20000 in
theorem ggX7_fits_X7_notch : GoodIn wsX7_fits wsX7_notch := goodIn_r _ [10, 11, 12, 13, 6, 14] (by decide +kernel) (by decide +kernel)
set_option maxRecDepth 20000 in
theorem gX7_fits_X7_notch : GoodIn wsX7_fits (va_wsS RX7 344 yX7_notch wsX7_notch) := goodIn_app (goodIn_of _ (by decide +kernel)) ggX7_fits_X7_notch
theorem dX7_fits_0 : decode cX7_fits 0 = .ok (.iload_n 1, 1) := by decide +kernel
theorem dX7_fits_1 : decode cX7_fits 1 = .ok (.iconst 0, 1) := by decide +kernel
theorem dX7_fits_2 : decode cX7_fits 2 = .ok (.aload_n 0, 1) := by decide +kernel
theorem dX7_fits_3 : decode cX7_fits 3 = .ok (.getfield 322, 3) := by decide +kernel
theorem dX7_fits_6 : decode cX7_fits 6 = .ok (.iconst 1, 1) := by decide +kernel
theorem dX7_fits_7 : decode cX7_fits 7 = .ok (.isub, 1) := by decide +kernel
theorem dX7_fits_8 : decode cX7_fits 8 = .ok (.invokestatic 132, 3) := by decide +kernel
theorem dX7_fits_11 : decode cX7_fits 11 = .ok (.ifCond .eq 14, 3) := by decide +kernel
theorem dX7_fits_14 : decode cX7_fits 14 = .ok (.iload_n 2, 1) := by decide +kernel
theorem dX7_fits_15 : decode cX7_fits 15 = .ok (.iconst 0, 1) := by decide +kernel
theorem dX7_fits_16 : decode cX7_fits 16 = .ok (.ldc_w 311, 3) := by decide +kernel
theorem dX7_fits_19 : decode cX7_fits 19 = .ok (.invokestatic 132, 3) := by decide +kernel
theorem dX7_fits_22 : decode cX7_fits 22 = .ok (.ifCond .ne 5, 3) := by decide +kernel
theorem dX7_fits_25 : decode cX7_fits 25 = .ok (.iconst (-1), 1) := by decide +kernel
theorem dX7_fits_26 : decode cX7_fits 26 = .ok (.ireturn, 1) := by decide +kernel
theorem dX7_fits_27 : decode cX7_fits 27 = .ok (.iconst 0, 1) := by decide +kernel
theorem dX7_fits_28 : decode cX7_fits 28 = .ok (.istore_n 3, 1) := by decide +kernel
theorem dX7_fits_29 : decode cX7_fits 29 = .ok (.iload_n 3, 1) := by decide +kernel
theorem dX7_fits_30 : decode cX7_fits 30 = .ok (.bipush 6, 2) := by decide +kernel
theorem dX7_fits_32 : decode cX7_fits 32 = .ok (.if_icmp .ge 29, 3) := by decide +kernel
theorem dX7_fits_35 : decode cX7_fits 35 = .ok (.aload_n 0, 1) := by decide +kernel
theorem dX7_fits_36 : decode cX7_fits 36 = .ok (.getfield 112, 3) := by decide +kernel
theorem dX7_fits_39 : decode cX7_fits 39 = .ok (.iload_n 1, 1) := by decide +kernel
theorem dX7_fits_40 : decode cX7_fits 40 = .ok (.iaload, 1) := by decide +kernel
theorem dX7_fits_41 : decode cX7_fits 41 = .ok (.iload_n 3, 1) := by decide +kernel
theorem dX7_fits_42 : decode cX7_fits 42 = .ok (.invokestatic 344, 3) := by decide +kernel
theorem dX7_fits_45 : decode cX7_fits 45 = .ok (.iload_n 2, 1) := by decide +kernel
theorem dX7_fits_46 : decode cX7_fits 46 = .ok (.iload_n 3, 1) := by decide +kernel
theorem dX7_fits_47 : decode cX7_fits 47 = .ok (.invokestatic 344, 3) := by decide +kernel
theorem dX7_fits_50 : decode cX7_fits 50 = .ok (.if_icmp .eq 5, 3) := by decide +kernel
theorem dX7_fits_53 : decode cX7_fits 53 = .ok (.iload_n 3, 1) := by decide +kernel
theorem dX7_fits_54 : decode cX7_fits 54 = .ok (.ireturn, 1) := by decide +kernel
theorem dX7_fits_55 : decode cX7_fits 55 = .ok (.iinc 3 1, 3) := by decide +kernel
theorem dX7_fits_58 : decode cX7_fits 58 = .ok (.goto (-29), 3) := by decide +kernel
theorem dX7_fits_61 : decode cX7_fits 61 = .ok (.bipush 6, 2) := by decide +kernel
theorem dX7_fits_63 : decode cX7_fits 63 = .ok (.ireturn, 1) := by decide +kernel
set_option maxRecDepth 20000 in
theorem ggX7_next_X7_worthOf : GoodIn wsX7_next wsX7_worthOf := goodIn_r _ [4, 5] (by decide +kernel) (by decide +kernel)
set_option maxRecDepth 20000 in
theorem gX7_next_X7_worthOf : GoodIn wsX7_next (va_wsS RX7 341 yX7_worthOf wsX7_worthOf) := goodIn_app (goodIn_of _ (by decide +kernel)) ggX7_next_X7_worthOf
theorem dX7_next_0 : decode cX7_next 0 = .ok (.iload_n 0, 1) := by decide +kernel
theorem dX7_next_1 : decode cX7_next 1 = .ok (.iconst 1, 1) := by decide +kernel
theorem dX7_next_2 : decode cX7_next 2 = .ok (.iadd, 1) := by decide +kernel
theorem dX7_next_3 : decode cX7_next 3 = .ok (.invokestatic 341, 3) := by decide +kernel
theorem dX7_next_6 : decode cX7_next 6 = .ok (.iload_n 0, 1) := by decide +kernel
theorem dX7_next_7 : decode cX7_next 7 = .ok (.invokestatic 341, 3) := by decide +kernel
theorem dX7_next_10 : decode cX7_next 10 = .ok (.idiv, 1) := by decide +kernel
theorem dX7_next_11 : decode cX7_next 11 = .ok (.ireturn, 1) := by decide +kernel
set_option maxRecDepth 20000 in
theorem ggX7_lies_X7_worthOf : GoodIn wsX7_lies wsX7_worthOf := goodIn_r _ [5, 6] (by decide +kernel) (by decide +kernel)
set_option maxRecDepth 20000 in
theorem gX7_lies_X7_worthOf : GoodIn wsX7_lies (va_wsS RX7 341 yX7_worthOf wsX7_worthOf) := goodIn_app (goodIn_of _ (by decide +kernel)) ggX7_lies_X7_worthOf
theorem dX7_lies_0 : decode cX7_lies 0 = .ok (.lconst 0, 1) := by decide +kernel
theorem dX7_lies_1 : decode cX7_lies 1 = .ok (.lstore_n 1, 1) := by decide +kernel
theorem dX7_lies_2 : decode cX7_lies 2 = .ok (.iconst 0, 1) := by decide +kernel
theorem dX7_lies_3 : decode cX7_lies 3 = .ok (.istore_n 3, 1) := by decide +kernel
theorem dX7_lies_4 : decode cX7_lies 4 = .ok (.iload_n 3, 1) := by decide +kernel
theorem dX7_lies_5 : decode cX7_lies 5 = .ok (.bipush 6, 2) := by decide +kernel
theorem dX7_lies_7 : decode cX7_lies 7 = .ok (.if_icmp .ge 25, 3) := by decide +kernel
theorem dX7_lies_10 : decode cX7_lies 10 = .ok (.lload_n 1, 1) := by decide +kernel
theorem dX7_lies_11 : decode cX7_lies 11 = .ok (.aload_n 0, 1) := by decide +kernel
theorem dX7_lies_12 : decode cX7_lies 12 = .ok (.getfield 118, 3) := by decide +kernel
theorem dX7_lies_15 : decode cX7_lies 15 = .ok (.iload_n 3, 1) := by decide +kernel
theorem dX7_lies_16 : decode cX7_lies 16 = .ok (.iaload, 1) := by decide +kernel
theorem dX7_lies_17 : decode cX7_lies 17 = .ok (.i2l, 1) := by decide +kernel
theorem dX7_lies_18 : decode cX7_lies 18 = .ok (.iload_n 3, 1) := by decide +kernel
theorem dX7_lies_19 : decode cX7_lies 19 = .ok (.invokestatic 341, 3) := by decide +kernel
theorem dX7_lies_22 : decode cX7_lies 22 = .ok (.i2l, 1) := by decide +kernel
theorem dX7_lies_23 : decode cX7_lies 23 = .ok (.lmul, 1) := by decide +kernel
theorem dX7_lies_24 : decode cX7_lies 24 = .ok (.ladd, 1) := by decide +kernel
theorem dX7_lies_25 : decode cX7_lies 25 = .ok (.lstore_n 1, 1) := by decide +kernel
theorem dX7_lies_26 : decode cX7_lies 26 = .ok (.iinc 3 1, 3) := by decide +kernel
theorem dX7_lies_29 : decode cX7_lies 29 = .ok (.goto (-25), 3) := by decide +kernel
theorem dX7_lies_32 : decode cX7_lies 32 = .ok (.lload_n 1, 1) := by decide +kernel
theorem dX7_lies_33 : decode cX7_lies 33 = .ok (.lreturn, 1) := by decide +kernel
set_option maxRecDepth 20000 in
theorem ggX7_lay_X7_in : GoodIn wsX7_lay wsX7_in := goodIn_r _ [6] (by decide +kernel) (by decide +kernel)
set_option maxRecDepth 20000 in
theorem gX7_lay_X7_in : GoodIn wsX7_lay (va_wsS RX7 132 yX7_in wsX7_in) := goodIn_app (goodIn_of _ (by decide +kernel)) ggX7_lay_X7_in
set_option maxRecDepth 20000 in
theorem ggX7_lay_X7_notch : GoodIn wsX7_lay wsX7_notch := goodIn_r _ [9, 10, 11, 12, 5, 13] (by decide +kernel) (by decide +kernel)
set_option maxRecDepth 20000 in
theorem gX7_lay_X7_notch : GoodIn wsX7_lay (va_wsS RX7 344 yX7_notch wsX7_notch) := goodIn_app (goodIn_of _ (by decide +kernel)) ggX7_lay_X7_notch
set_option maxRecDepth 20000 in
theorem ggX7_lay_X7_next : GoodIn wsX7_lay wsX7_next := goodIn_r _ [16, 11, 12, 5, 13, 10] (by decide +kernel) (by decide +kernel)
set_option maxRecDepth 20000 in
theorem gX7_lay_X7_next : GoodIn wsX7_lay (va_wsS RX7 348 yX7_next wsX7_next) := goodIn_app (goodIn_of _ (by decide +kernel)) ggX7_lay_X7_next
theorem dX7_lay_0 : decode cX7_lay 0 = .ok (.iload_n 1, 1) := by decide +kernel
theorem dX7_lay_1 : decode cX7_lay 1 = .ok (.iconst 1, 1) := by decide +kernel
theorem dX7_lay_2 : decode cX7_lay 2 = .ok (.ldc_w 284, 3) := by decide +kernel
theorem dX7_lay_5 : decode cX7_lay 5 = .ok (.invokestatic 132, 3) := by decide +kernel
theorem dX7_lay_8 : decode cX7_lay 8 = .ok (.ifCond .ne 5, 3) := by decide +kernel
theorem dX7_lay_11 : decode cX7_lay 11 = .ok (.iconst (-1), 1) := by decide +kernel
theorem dX7_lay_12 : decode cX7_lay 12 = .ok (.ireturn, 1) := by decide +kernel
theorem dX7_lay_13 : decode cX7_lay 13 = .ok (.iconst 0, 1) := by decide +kernel
theorem dX7_lay_14 : decode cX7_lay 14 = .ok (.istore_n 2, 1) := by decide +kernel
theorem dX7_lay_15 : decode cX7_lay 15 = .ok (.iload_n 2, 1) := by decide +kernel
theorem dX7_lay_16 : decode cX7_lay 16 = .ok (.bipush 6, 2) := by decide +kernel
theorem dX7_lay_18 : decode cX7_lay 18 = .ok (.if_icmp .ge 23, 3) := by decide +kernel
theorem dX7_lay_21 : decode cX7_lay 21 = .ok (.aload_n 0, 1) := by decide +kernel
theorem dX7_lay_22 : decode cX7_lay 22 = .ok (.getfield 118, 3) := by decide +kernel
theorem dX7_lay_25 : decode cX7_lay 25 = .ok (.iload_n 2, 1) := by decide +kernel
theorem dX7_lay_26 : decode cX7_lay 26 = .ok (.dup2, 1) := by decide +kernel
theorem dX7_lay_27 : decode cX7_lay 27 = .ok (.iaload, 1) := by decide +kernel
theorem dX7_lay_28 : decode cX7_lay 28 = .ok (.iload_n 1, 1) := by decide +kernel
theorem dX7_lay_29 : decode cX7_lay 29 = .ok (.iload_n 2, 1) := by decide +kernel
theorem dX7_lay_30 : decode cX7_lay 30 = .ok (.invokestatic 344, 3) := by decide +kernel
theorem dX7_lay_33 : decode cX7_lay 33 = .ok (.iadd, 1) := by decide +kernel
theorem dX7_lay_34 : decode cX7_lay 34 = .ok (.iastore, 1) := by decide +kernel
theorem dX7_lay_35 : decode cX7_lay 35 = .ok (.iinc 2 1, 3) := by decide +kernel
theorem dX7_lay_38 : decode cX7_lay 38 = .ok (.goto (-23), 3) := by decide +kernel
theorem dX7_lay_41 : decode cX7_lay 41 = .ok (.iconst 0, 1) := by decide +kernel
theorem dX7_lay_42 : decode cX7_lay 42 = .ok (.istore_n 2, 1) := by decide +kernel
theorem dX7_lay_43 : decode cX7_lay 43 = .ok (.iconst 0, 1) := by decide +kernel
theorem dX7_lay_44 : decode cX7_lay 44 = .ok (.istore_n 3, 1) := by decide +kernel
theorem dX7_lay_45 : decode cX7_lay 45 = .ok (.iload_n 3, 1) := by decide +kernel
theorem dX7_lay_46 : decode cX7_lay 46 = .ok (.iconst 5, 1) := by decide +kernel
theorem dX7_lay_47 : decode cX7_lay 47 = .ok (.if_icmp .ge 55, 3) := by decide +kernel
theorem dX7_lay_50 : decode cX7_lay 50 = .ok (.aload_n 0, 1) := by decide +kernel
theorem dX7_lay_51 : decode cX7_lay 51 = .ok (.getfield 118, 3) := by decide +kernel
theorem dX7_lay_54 : decode cX7_lay 54 = .ok (.iload_n 3, 1) := by decide +kernel
theorem dX7_lay_55 : decode cX7_lay 55 = .ok (.iaload, 1) := by decide +kernel
theorem dX7_lay_56 : decode cX7_lay 56 = .ok (.iload_n 3, 1) := by decide +kernel
theorem dX7_lay_57 : decode cX7_lay 57 = .ok (.invokestatic 348, 3) := by decide +kernel
theorem dX7_lay_60 : decode cX7_lay 60 = .ok (.if_icmp .ge 9, 3) := by decide +kernel
theorem dX7_lay_63 : decode cX7_lay 63 = .ok (.iinc 3 1, 3) := by decide +kernel
theorem dX7_lay_66 : decode cX7_lay 66 = .ok (.goto (-21), 3) := by decide +kernel
theorem dX7_lay_69 : decode cX7_lay 69 = .ok (.aload_n 0, 1) := by decide +kernel
theorem dX7_lay_70 : decode cX7_lay 70 = .ok (.getfield 118, 3) := by decide +kernel
theorem dX7_lay_73 : decode cX7_lay 73 = .ok (.iload_n 3, 1) := by decide +kernel
theorem dX7_lay_74 : decode cX7_lay 74 = .ok (.dup2, 1) := by decide +kernel
theorem dX7_lay_75 : decode cX7_lay 75 = .ok (.iaload, 1) := by decide +kernel
theorem dX7_lay_76 : decode cX7_lay 76 = .ok (.iload_n 3, 1) := by decide +kernel
theorem dX7_lay_77 : decode cX7_lay 77 = .ok (.invokestatic 348, 3) := by decide +kernel
theorem dX7_lay_80 : decode cX7_lay 80 = .ok (.isub, 1) := by decide +kernel
theorem dX7_lay_81 : decode cX7_lay 81 = .ok (.iastore, 1) := by decide +kernel
theorem dX7_lay_82 : decode cX7_lay 82 = .ok (.aload_n 0, 1) := by decide +kernel
theorem dX7_lay_83 : decode cX7_lay 83 = .ok (.getfield 118, 3) := by decide +kernel
theorem dX7_lay_86 : decode cX7_lay 86 = .ok (.iload_n 3, 1) := by decide +kernel
theorem dX7_lay_87 : decode cX7_lay 87 = .ok (.iconst 1, 1) := by decide +kernel
theorem dX7_lay_88 : decode cX7_lay 88 = .ok (.iadd, 1) := by decide +kernel
theorem dX7_lay_89 : decode cX7_lay 89 = .ok (.dup2, 1) := by decide +kernel
theorem dX7_lay_90 : decode cX7_lay 90 = .ok (.iaload, 1) := by decide +kernel
theorem dX7_lay_91 : decode cX7_lay 91 = .ok (.iconst 1, 1) := by decide +kernel
theorem dX7_lay_92 : decode cX7_lay 92 = .ok (.iadd, 1) := by decide +kernel
theorem dX7_lay_93 : decode cX7_lay 93 = .ok (.iastore, 1) := by decide +kernel
theorem dX7_lay_94 : decode cX7_lay 94 = .ok (.iinc 2 1, 3) := by decide +kernel
theorem dX7_lay_97 : decode cX7_lay 97 = .ok (.iconst 0, 1) := by decide +kernel
theorem dX7_lay_98 : decode cX7_lay 98 = .ok (.istore_n 3, 1) := by decide +kernel
theorem dX7_lay_99 : decode cX7_lay 99 = .ok (.goto (-54), 3) := by decide +kernel
theorem dX7_lay_102 : decode cX7_lay 102 = .ok (.iload_n 2, 1) := by decide +kernel
theorem dX7_lay_103 : decode cX7_lay 103 = .ok (.ireturn, 1) := by decide +kernel
set_option maxRecDepth 20000 in
theorem ggX7_take_X7_in : GoodIn wsX7_take wsX7_in := goodIn_r _ [6] (by decide +kernel) (by decide +kernel)
set_option maxRecDepth 20000 in
theorem gX7_take_X7_in : GoodIn wsX7_take (va_wsS RX7 132 yX7_in wsX7_in) := goodIn_app (goodIn_of _ (by decide +kernel)) ggX7_take_X7_in
set_option maxRecDepth 20000 in
theorem ggX7_take_X7_lies : GoodIn wsX7_take wsX7_lies := goodIn_r _ [10, 2, 11, 12, 5, 13, 14, 21, 22, 23, 24, 25, 26, 27, 28, 29, 30, 31, 32, 33, 34, 35, 36, 37, 38, 39, 40, 41, 42, 43, 44, 45, 46, 47, 48, 49, 50, 51, 52, 53, 54, 55, 56, 57, 58, 59, 60, 61, 62, 63, 64, 65, 66, 67, 68, 69, 70, 71, 72, 73, 74, 75, 76] (by decide +kernel) (by decide +kernel)
set_option maxRecDepth 20000 in
theorem gX7_take_X7_lies : GoodIn wsX7_take (wsV RX7 351 RX7 yX7_lies wsX7_lies) := goodIn_app (goodIn_of _ (by decide +kernel)) ggX7_take_X7_lies
set_option maxRecDepth 20000 in
theorem ggX7_take_X7_notch : GoodIn wsX7_take wsX7_notch := goodIn_r _ [17, 14, 11, 12, 5, 13] (by decide +kernel) (by decide +kernel)
set_option maxRecDepth 20000 in
theorem gX7_take_X7_notch : GoodIn wsX7_take (va_wsS RX7 344 yX7_notch wsX7_notch) := goodIn_app (goodIn_of _ (by decide +kernel)) ggX7_take_X7_notch
set_option maxRecDepth 20000 in
theorem ggX7_take_X7_next : GoodIn wsX7_take wsX7_next := goodIn_r _ [20, 11, 12, 5, 13, 14] (by decide +kernel) (by decide +kernel)
set_option maxRecDepth 20000 in
theorem gX7_take_X7_next : GoodIn wsX7_take (va_wsS RX7 348 yX7_next wsX7_next) := goodIn_app (goodIn_of _ (by decide +kernel)) ggX7_take_X7_next
theorem dX7_take_0 : decode cX7_take 0 = .ok (.iload_n 1, 1) := by decide +kernel
theorem dX7_take_1 : decode cX7_take 1 = .ok (.iconst 1, 1) := by decide +kernel
theorem dX7_take_2 : decode cX7_take 2 = .ok (.ldc_w 284, 3) := by decide +kernel
theorem dX7_take_5 : decode cX7_take 5 = .ok (.invokestatic 132, 3) := by decide +kernel
theorem dX7_take_8 : decode cX7_take 8 = .ok (.ifCond .ne 5, 3) := by decide +kernel
theorem dX7_take_11 : decode cX7_take 11 = .ok (.iconst (-1), 1) := by decide +kernel
theorem dX7_take_12 : decode cX7_take 12 = .ok (.ireturn, 1) := by decide +kernel
theorem dX7_take_13 : decode cX7_take 13 = .ok (.iload_n 1, 1) := by decide +kernel
theorem dX7_take_14 : decode cX7_take 14 = .ok (.i2l, 1) := by decide +kernel
theorem dX7_take_15 : decode cX7_take 15 = .ok (.aload_n 0, 1) := by decide +kernel
theorem dX7_take_16 : decode cX7_take 16 = .ok (.invokevirtual 351, 3) := by decide +kernel
theorem dX7_take_19 : decode cX7_take 19 = .ok (.lcmp, 1) := by decide +kernel
theorem dX7_take_20 : decode cX7_take 20 = .ok (.ifCond .le 6, 3) := by decide +kernel
theorem dX7_take_23 : decode cX7_take 23 = .ok (.bipush (-2), 2) := by decide +kernel
theorem dX7_take_25 : decode cX7_take 25 = .ok (.ireturn, 1) := by decide +kernel
theorem dX7_take_26 : decode cX7_take 26 = .ok (.iconst 0, 1) := by decide +kernel
theorem dX7_take_27 : decode cX7_take 27 = .ok (.istore_n 2, 1) := by decide +kernel
theorem dX7_take_28 : decode cX7_take 28 = .ok (.iconst 0, 1) := by decide +kernel
theorem dX7_take_29 : decode cX7_take 29 = .ok (.istore_n 3, 1) := by decide +kernel
theorem dX7_take_30 : decode cX7_take 30 = .ok (.iload_n 3, 1) := by decide +kernel
theorem dX7_take_31 : decode cX7_take 31 = .ok (.bipush 6, 2) := by decide +kernel
theorem dX7_take_33 : decode cX7_take 33 = .ok (.if_icmp .ge 103, 3) := by decide +kernel
theorem dX7_take_36 : decode cX7_take 36 = .ok (.iload_n 1, 1) := by decide +kernel
theorem dX7_take_37 : decode cX7_take 37 = .ok (.iload_n 3, 1) := by decide +kernel
theorem dX7_take_38 : decode cX7_take 38 = .ok (.invokestatic 344, 3) := by decide +kernel
theorem dX7_take_41 : decode cX7_take 41 = .ok (.istore 4, 2) := by decide +kernel
theorem dX7_take_43 : decode cX7_take 43 = .ok (.aload_n 0, 1) := by decide +kernel
theorem dX7_take_44 : decode cX7_take 44 = .ok (.getfield 118, 3) := by decide +kernel
theorem dX7_take_47 : decode cX7_take 47 = .ok (.iload_n 3, 1) := by decide +kernel
theorem dX7_take_48 : decode cX7_take 48 = .ok (.iaload, 1) := by decide +kernel
theorem dX7_take_49 : decode cX7_take 49 = .ok (.iload 4, 2) := by decide +kernel
theorem dX7_take_51 : decode cX7_take 51 = .ok (.if_icmp .ge 68, 3) := by decide +kernel
theorem dX7_take_54 : decode cX7_take 54 = .ok (.iload_n 3, 1) := by decide +kernel
theorem dX7_take_55 : decode cX7_take 55 = .ok (.iconst 1, 1) := by decide +kernel
theorem dX7_take_56 : decode cX7_take 56 = .ok (.iadd, 1) := by decide +kernel
theorem dX7_take_57 : decode cX7_take 57 = .ok (.istore 5, 2) := by decide +kernel
theorem dX7_take_59 : decode cX7_take 59 = .ok (.aload_n 0, 1) := by decide +kernel
theorem dX7_take_60 : decode cX7_take 60 = .ok (.getfield 118, 3) := by decide +kernel
theorem dX7_take_63 : decode cX7_take 63 = .ok (.iload 5, 2) := by decide +kernel
theorem dX7_take_65 : decode cX7_take 65 = .ok (.iaload, 1) := by decide +kernel
theorem dX7_take_66 : decode cX7_take 66 = .ok (.ifCond .ne 9, 3) := by decide +kernel
theorem dX7_take_69 : decode cX7_take 69 = .ok (.iinc 5 1, 3) := by decide +kernel
theorem dX7_take_72 : decode cX7_take 72 = .ok (.goto (-13), 3) := by decide +kernel
theorem dX7_take_75 : decode cX7_take 75 = .ok (.iload 5, 2) := by decide +kernel
theorem dX7_take_77 : decode cX7_take 77 = .ok (.iload_n 3, 1) := by decide +kernel
theorem dX7_take_78 : decode cX7_take 78 = .ok (.if_icmp .le 38, 3) := by decide +kernel
theorem dX7_take_81 : decode cX7_take 81 = .ok (.aload_n 0, 1) := by decide +kernel
theorem dX7_take_82 : decode cX7_take 82 = .ok (.getfield 118, 3) := by decide +kernel
theorem dX7_take_85 : decode cX7_take 85 = .ok (.iload 5, 2) := by decide +kernel
theorem dX7_take_87 : decode cX7_take 87 = .ok (.dup2, 1) := by decide +kernel
theorem dX7_take_88 : decode cX7_take 88 = .ok (.iaload, 1) := by decide +kernel
theorem dX7_take_89 : decode cX7_take 89 = .ok (.iconst 1, 1) := by decide +kernel
theorem dX7_take_90 : decode cX7_take 90 = .ok (.isub, 1) := by decide +kernel
theorem dX7_take_91 : decode cX7_take 91 = .ok (.iastore, 1) := by decide +kernel
theorem dX7_take_92 : decode cX7_take 92 = .ok (.iinc 5 (-1), 3) := by decide +kernel
theorem dX7_take_95 : decode cX7_take 95 = .ok (.aload_n 0, 1) := by decide +kernel
theorem dX7_take_96 : decode cX7_take 96 = .ok (.getfield 118, 3) := by decide +kernel
theorem dX7_take_99 : decode cX7_take 99 = .ok (.iload 5, 2) := by decide +kernel
theorem dX7_take_101 : decode cX7_take 101 = .ok (.dup2, 1) := by decide +kernel
theorem dX7_take_102 : decode cX7_take 102 = .ok (.iaload, 1) := by decide +kernel
theorem dX7_take_103 : decode cX7_take 103 = .ok (.iload 5, 2) := by decide +kernel
theorem dX7_take_105 : decode cX7_take 105 = .ok (.invokestatic 348, 3) := by decide +kernel
theorem dX7_take_108 : decode cX7_take 108 = .ok (.iadd, 1) := by decide +kernel
theorem dX7_take_109 : decode cX7_take 109 = .ok (.iastore, 1) := by decide +kernel
theorem dX7_take_110 : decode cX7_take 110 = .ok (.iinc 2 1, 3) := by decide +kernel
theorem dX7_take_113 : decode cX7_take 113 = .ok (.goto (-38), 3) := by decide +kernel
theorem dX7_take_116 : decode cX7_take 116 = .ok (.goto (-73), 3) := by decide +kernel
theorem dX7_take_119 : decode cX7_take 119 = .ok (.aload_n 0, 1) := by decide +kernel
theorem dX7_take_120 : decode cX7_take 120 = .ok (.getfield 118, 3) := by decide +kernel
theorem dX7_take_123 : decode cX7_take 123 = .ok (.iload_n 3, 1) := by decide +kernel
theorem dX7_take_124 : decode cX7_take 124 = .ok (.dup2, 1) := by decide +kernel
theorem dX7_take_125 : decode cX7_take 125 = .ok (.iaload, 1) := by decide +kernel
theorem dX7_take_126 : decode cX7_take 126 = .ok (.iload 4, 2) := by decide +kernel
theorem dX7_take_128 : decode cX7_take 128 = .ok (.isub, 1) := by decide +kernel
theorem dX7_take_129 : decode cX7_take 129 = .ok (.iastore, 1) := by decide +kernel
theorem dX7_take_130 : decode cX7_take 130 = .ok (.iinc 3 1, 3) := by decide +kernel
theorem dX7_take_133 : decode cX7_take 133 = .ok (.goto (-103), 3) := by decide +kernel
theorem dX7_take_136 : decode cX7_take 136 = .ok (.iload_n 2, 1) := by decide +kernel
theorem dX7_take_137 : decode cX7_take 137 = .ok (.ireturn, 1) := by decide +kernel
set_option maxRecDepth 20000 in
theorem ggX7_cloth_X7_in : GoodIn wsX7_cloth wsX7_in := goodIn_r _ [5] (by decide +kernel) (by decide +kernel)
set_option maxRecDepth 20000 in
theorem gX7_cloth_X7_in : GoodIn wsX7_cloth (va_wsS RX7 132 yX7_in wsX7_in) := goodIn_app (goodIn_of _ (by decide +kernel)) ggX7_cloth_X7_in
theorem dX7_cloth_0 : decode cX7_cloth 0 = .ok (.iload_n 1, 1) := by decide +kernel
theorem dX7_cloth_1 : decode cX7_cloth 1 = .ok (.iconst 0, 1) := by decide +kernel
theorem dX7_cloth_2 : decode cX7_cloth 2 = .ok (.iconst 5, 1) := by decide +kernel
theorem dX7_cloth_3 : decode cX7_cloth 3 = .ok (.invokestatic 132, 3) := by decide +kernel
theorem dX7_cloth_6 : decode cX7_cloth 6 = .ok (.ifCond .eq 12, 3) := by decide +kernel
theorem dX7_cloth_9 : decode cX7_cloth 9 = .ok (.aload_n 0, 1) := by decide +kernel
theorem dX7_cloth_10 : decode cX7_cloth 10 = .ok (.getfield 118, 3) := by decide +kernel
theorem dX7_cloth_13 : decode cX7_cloth 13 = .ok (.iload_n 1, 1) := by decide +kernel
theorem dX7_cloth_14 : decode cX7_cloth 14 = .ok (.iaload, 1) := by decide +kernel
theorem dX7_cloth_15 : decode cX7_cloth 15 = .ok (.goto 4, 3) := by decide +kernel
theorem dX7_cloth_18 : decode cX7_cloth 18 = .ok (.iconst (-1), 1) := by decide +kernel
theorem dX7_cloth_19 : decode cX7_cloth 19 = .ok (.ireturn, 1) := by decide +kernel
set_option maxRecDepth 20000 in
theorem ggX7_sum_X7_lies : GoodIn wsX7_sum wsX7_lies := goodIn_r _ [13, 14, 15, 16, 12, 17, 18, 19, 20, 21, 22, 23, 24, 25, 26, 27, 28, 29, 30, 31, 32, 33, 34, 35, 36, 37, 38, 39, 40, 41, 42, 43, 44, 45, 46, 47, 48, 49, 50, 51, 52, 53, 54, 55, 56, 57, 58, 59, 60, 61, 62, 63, 64, 65, 66, 67, 68, 69, 70, 71, 72, 73, 74] (by decide +kernel) (by decide +kernel)
set_option maxRecDepth 20000 in
theorem gX7_sum_X7_lies : GoodIn wsX7_sum (wsV RX7 351 RX7 yX7_lies wsX7_lies) := goodIn_app (goodIn_of _ (by decide +kernel)) ggX7_sum_X7_lies
theorem dX7_sum_0 : decode cX7_sum 0 = .ok (.lconst 0, 1) := by decide +kernel
theorem dX7_sum_1 : decode cX7_sum 1 = .ok (.lstore_n 2, 1) := by decide +kernel
theorem dX7_sum_2 : decode cX7_sum 2 = .ok (.iload_n 1, 1) := by decide +kernel
theorem dX7_sum_3 : decode cX7_sum 3 = .ok (.tableswitch 177 0 6 #[41, 46, 51, 79, 110, 141, 172], 41) := by decide +kernel
theorem dX7_sum_44 : decode cX7_sum 44 = .ok (.aload_n 0, 1) := by decide +kernel
theorem dX7_sum_45 : decode cX7_sum 45 = .ok (.invokevirtual 351, 3) := by decide +kernel
theorem dX7_sum_48 : decode cX7_sum 48 = .ok (.lreturn, 1) := by decide +kernel
theorem dX7_sum_49 : decode cX7_sum 49 = .ok (.aload_n 0, 1) := by decide +kernel
theorem dX7_sum_50 : decode cX7_sum 50 = .ok (.getfield 335, 3) := by decide +kernel
theorem dX7_sum_53 : decode cX7_sum 53 = .ok (.lreturn, 1) := by decide +kernel
theorem dX7_sum_54 : decode cX7_sum 54 = .ok (.iconst 0, 1) := by decide +kernel
theorem dX7_sum_55 : decode cX7_sum 55 = .ok (.istore 4, 2) := by decide +kernel
theorem dX7_sum_57 : decode cX7_sum 57 = .ok (.iload 4, 2) := by decide +kernel
theorem dX7_sum_59 : decode cX7_sum 59 = .ok (.bipush 16, 2) := by decide +kernel
theorem dX7_sum_61 : decode cX7_sum 61 = .ok (.if_icmp .ge 19, 3) := by decide +kernel
theorem dX7_sum_64 : decode cX7_sum 64 = .ok (.lload_n 2, 1) := by decide +kernel
theorem dX7_sum_65 : decode cX7_sum 65 = .ok (.aload_n 0, 1) := by decide +kernel
theorem dX7_sum_66 : decode cX7_sum 66 = .ok (.getfield 71, 3) := by decide +kernel
theorem dX7_sum_69 : decode cX7_sum 69 = .ok (.iload 4, 2) := by decide +kernel
theorem dX7_sum_71 : decode cX7_sum 71 = .ok (.laload, 1) := by decide +kernel
theorem dX7_sum_72 : decode cX7_sum 72 = .ok (.ladd, 1) := by decide +kernel
theorem dX7_sum_73 : decode cX7_sum 73 = .ok (.lstore_n 2, 1) := by decide +kernel
theorem dX7_sum_74 : decode cX7_sum 74 = .ok (.iinc 4 1, 3) := by decide +kernel
theorem dX7_sum_77 : decode cX7_sum 77 = .ok (.goto (-20), 3) := by decide +kernel
theorem dX7_sum_80 : decode cX7_sum 80 = .ok (.lload_n 2, 1) := by decide +kernel
theorem dX7_sum_81 : decode cX7_sum 81 = .ok (.lreturn, 1) := by decide +kernel
theorem dX7_sum_82 : decode cX7_sum 82 = .ok (.iconst 0, 1) := by decide +kernel
theorem dX7_sum_83 : decode cX7_sum 83 = .ok (.istore 4, 2) := by decide +kernel
theorem dX7_sum_85 : decode cX7_sum 85 = .ok (.iload 4, 2) := by decide +kernel
theorem dX7_sum_87 : decode cX7_sum 87 = .ok (.aload_n 0, 1) := by decide +kernel
theorem dX7_sum_88 : decode cX7_sum 88 = .ok (.getfield 277, 3) := by decide +kernel
theorem dX7_sum_91 : decode cX7_sum 91 = .ok (.if_icmp .ge 20, 3) := by decide +kernel
theorem dX7_sum_94 : decode cX7_sum 94 = .ok (.lload_n 2, 1) := by decide +kernel
theorem dX7_sum_95 : decode cX7_sum 95 = .ok (.aload_n 0, 1) := by decide +kernel
theorem dX7_sum_96 : decode cX7_sum 96 = .ok (.getfield 59, 3) := by decide +kernel
theorem dX7_sum_99 : decode cX7_sum 99 = .ok (.iload 4, 2) := by decide +kernel
theorem dX7_sum_101 : decode cX7_sum 101 = .ok (.iaload, 1) := by decide +kernel
theorem dX7_sum_102 : decode cX7_sum 102 = .ok (.i2l, 1) := by decide +kernel
theorem dX7_sum_103 : decode cX7_sum 103 = .ok (.ladd, 1) := by decide +kernel
theorem dX7_sum_104 : decode cX7_sum 104 = .ok (.lstore_n 2, 1) := by decide +kernel
theorem dX7_sum_105 : decode cX7_sum 105 = .ok (.iinc 4 1, 3) := by decide +kernel
theorem dX7_sum_108 : decode cX7_sum 108 = .ok (.goto (-23), 3) := by decide +kernel
theorem dX7_sum_111 : decode cX7_sum 111 = .ok (.lload_n 2, 1) := by decide +kernel
theorem dX7_sum_112 : decode cX7_sum 112 = .ok (.lreturn, 1) := by decide +kernel
theorem dX7_sum_113 : decode cX7_sum 113 = .ok (.iconst 0, 1) := by decide +kernel
theorem dX7_sum_114 : decode cX7_sum 114 = .ok (.istore 4, 2) := by decide +kernel
theorem dX7_sum_116 : decode cX7_sum 116 = .ok (.iload 4, 2) := by decide +kernel
theorem dX7_sum_118 : decode cX7_sum 118 = .ok (.aload_n 0, 1) := by decide +kernel
theorem dX7_sum_119 : decode cX7_sum 119 = .ok (.getfield 277, 3) := by decide +kernel
theorem dX7_sum_122 : decode cX7_sum 122 = .ok (.if_icmp .ge 20, 3) := by decide +kernel
theorem dX7_sum_125 : decode cX7_sum 125 = .ok (.lload_n 2, 1) := by decide +kernel
theorem dX7_sum_126 : decode cX7_sum 126 = .ok (.aload_n 0, 1) := by decide +kernel
theorem dX7_sum_127 : decode cX7_sum 127 = .ok (.getfield 68, 3) := by decide +kernel
theorem dX7_sum_130 : decode cX7_sum 130 = .ok (.iload 4, 2) := by decide +kernel
theorem dX7_sum_132 : decode cX7_sum 132 = .ok (.iaload, 1) := by decide +kernel
theorem dX7_sum_133 : decode cX7_sum 133 = .ok (.i2l, 1) := by decide +kernel
theorem dX7_sum_134 : decode cX7_sum 134 = .ok (.ladd, 1) := by decide +kernel
theorem dX7_sum_135 : decode cX7_sum 135 = .ok (.lstore_n 2, 1) := by decide +kernel
theorem dX7_sum_136 : decode cX7_sum 136 = .ok (.iinc 4 1, 3) := by decide +kernel
theorem dX7_sum_139 : decode cX7_sum 139 = .ok (.goto (-23), 3) := by decide +kernel
theorem dX7_sum_142 : decode cX7_sum 142 = .ok (.lload_n 2, 1) := by decide +kernel
theorem dX7_sum_143 : decode cX7_sum 143 = .ok (.lreturn, 1) := by decide +kernel
theorem dX7_sum_144 : decode cX7_sum 144 = .ok (.iconst 0, 1) := by decide +kernel
theorem dX7_sum_145 : decode cX7_sum 145 = .ok (.istore 4, 2) := by decide +kernel
theorem dX7_sum_147 : decode cX7_sum 147 = .ok (.iload 4, 2) := by decide +kernel
theorem dX7_sum_149 : decode cX7_sum 149 = .ok (.aload_n 0, 1) := by decide +kernel
theorem dX7_sum_150 : decode cX7_sum 150 = .ok (.getfield 277, 3) := by decide +kernel
theorem dX7_sum_153 : decode cX7_sum 153 = .ok (.if_icmp .ge 20, 3) := by decide +kernel
theorem dX7_sum_156 : decode cX7_sum 156 = .ok (.lload_n 2, 1) := by decide +kernel
theorem dX7_sum_157 : decode cX7_sum 157 = .ok (.aload_n 0, 1) := by decide +kernel
theorem dX7_sum_158 : decode cX7_sum 158 = .ok (.getfield 56, 3) := by decide +kernel
theorem dX7_sum_161 : decode cX7_sum 161 = .ok (.iload 4, 2) := by decide +kernel
theorem dX7_sum_163 : decode cX7_sum 163 = .ok (.iaload, 1) := by decide +kernel
theorem dX7_sum_164 : decode cX7_sum 164 = .ok (.i2l, 1) := by decide +kernel
theorem dX7_sum_165 : decode cX7_sum 165 = .ok (.ladd, 1) := by decide +kernel
theorem dX7_sum_166 : decode cX7_sum 166 = .ok (.lstore_n 2, 1) := by decide +kernel
theorem dX7_sum_167 : decode cX7_sum 167 = .ok (.iinc 4 1, 3) := by decide +kernel
theorem dX7_sum_170 : decode cX7_sum 170 = .ok (.goto (-23), 3) := by decide +kernel
theorem dX7_sum_173 : decode cX7_sum 173 = .ok (.lload_n 2, 1) := by decide +kernel
theorem dX7_sum_174 : decode cX7_sum 174 = .ok (.lreturn, 1) := by decide +kernel
theorem dX7_sum_175 : decode cX7_sum 175 = .ok (.aload_n 0, 1) := by decide +kernel
theorem dX7_sum_176 : decode cX7_sum 176 = .ok (.getfield 325, 3) := by decide +kernel
theorem dX7_sum_179 : decode cX7_sum 179 = .ok (.lreturn, 1) := by decide +kernel
theorem dX7_sum_180 : decode cX7_sum 180 = .ok (.ldc2_w 338, 3) := by decide +kernel
theorem dX7_sum_183 : decode cX7_sum 183 = .ok (.lreturn, 1) := by decide +kernel
theorem dX7_count_0 : decode cX7_count 0 = .ok (.iload_n 1, 1) := by decide +kernel
theorem dX7_count_1 : decode cX7_count 1 = .ok (.tableswitch 69 0 5 #[39, 44, 49, 54, 59, 64], 39) := by decide +kernel
theorem dX7_count_40 : decode cX7_count 40 = .ok (.aload_n 0, 1) := by decide +kernel
theorem dX7_count_41 : decode cX7_count 41 = .ok (.getfield 277, 3) := by decide +kernel
theorem dX7_count_44 : decode cX7_count 44 = .ok (.ireturn, 1) := by decide +kernel
theorem dX7_count_45 : decode cX7_count 45 = .ok (.aload_n 0, 1) := by decide +kernel
theorem dX7_count_46 : decode cX7_count 46 = .ok (.getfield 319, 3) := by decide +kernel
theorem dX7_count_49 : decode cX7_count 49 = .ok (.ireturn, 1) := by decide +kernel
theorem dX7_count_50 : decode cX7_count 50 = .ok (.aload_n 0, 1) := by decide +kernel
theorem dX7_count_51 : decode cX7_count 51 = .ok (.getfield 322, 3) := by decide +kernel
theorem dX7_count_54 : decode cX7_count 54 = .ok (.ireturn, 1) := by decide +kernel
theorem dX7_count_55 : decode cX7_count 55 = .ok (.aload_n 0, 1) := by decide +kernel
theorem dX7_count_56 : decode cX7_count 56 = .ok (.getfield 220, 3) := by decide +kernel
theorem dX7_count_59 : decode cX7_count 59 = .ok (.ireturn, 1) := by decide +kernel
theorem dX7_count_60 : decode cX7_count 60 = .ok (.aload_n 0, 1) := by decide +kernel
theorem dX7_count_61 : decode cX7_count 61 = .ok (.getfield 267, 3) := by decide +kernel
theorem dX7_count_64 : decode cX7_count 64 = .ok (.ireturn, 1) := by decide +kernel
theorem dX7_count_65 : decode cX7_count 65 = .ok (.aload_n 0, 1) := by decide +kernel
theorem dX7_count_66 : decode cX7_count 66 = .ok (.getfield 125, 3) := by decide +kernel
theorem dX7_count_69 : decode cX7_count 69 = .ok (.ireturn, 1) := by decide +kernel
theorem dX7_count_70 : decode cX7_count 70 = .ok (.iconst (-1), 1) := by decide +kernel
theorem dX7_count_71 : decode cX7_count 71 = .ok (.ireturn, 1) := by decide +kernel
