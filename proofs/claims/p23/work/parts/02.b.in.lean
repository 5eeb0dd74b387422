theorem memIn_r {big : List Cond} (ws : List Cond) (ps : List Nat) (hp : ws = ps.filterMap (fun i => big[i]?)) : ∀ w ∈ ws, w ∈ big := by
  intro w hw
  rw [hp] at hw
  obtain ⟨i, -, hi⟩ := List.mem_filterMap.mp hw
  first | exact List.mem_of_getElem? hi | exact List.getElem?_mem hi
set_option maxRecDepth 20000 in
theorem in_wsL_law_r1 : ∀ w ∈ wsL_law_r1, w ∈ lw_tbl := memIn_r _ [102, 103, 87, 777, 778, 95, 104, 105, 106, 107, 108, 109, 110, 111, 88, 243, 126, 127, 89, 244, 186, 187, 90, 245] (by decide +kernel)
set_option maxRecDepth 20000 in
theorem in_wsL_law_r2 : ∀ w ∈ wsL_law_r2, w ∈ lw_tbl := memIn_r _ [203, 246, 205, 206, 91, 248, 202, 249, 239, 250, 185, 251, 252, 253, 254, 255, 256, 228, 229, 93, 257, 113, 114, 115] (by decide +kernel)
set_option maxRecDepth 20000 in
theorem in_wsL_law_r3 : ∀ w ∈ wsL_law_r3, w ∈ lw_tbl := memIn_r _ [125, 116, 129, 130, 131, 142, 144, 145, 146, 148, 132, 189, 190, 191, 192, 193, 208, 209, 210, 211, 212, 92, 213, 214] (by decide +kernel)
set_option maxRecDepth 20000 in
theorem in_wsL_law_r4 : ∀ w ∈ wsL_law_r4, w ∈ lw_tbl := memIn_r _ [215, 216, 231, 232, 233, 234, 240, 241, 94, 242, 779, 780, 781, 782, 783, 791, 792, 793, 794, 795, 796, 797, 800, 804] (by decide +kernel)
set_option maxRecDepth 20000 in
theorem in_wsL_law_r5 : ∀ w ∈ wsL_law_r5, w ∈ lw_tbl := memIn_r _ [805, 807, 808, 810, 811, 812, 813, 814, 815, 816, 817, 818, 819, 822, 825, 826, 827, 828, 829, 830, 831, 832, 833, 835] (by decide +kernel)
set_option maxRecDepth 20000 in
theorem in_wsL_law_r6 : ∀ w ∈ wsL_law_r6, w ∈ lw_tbl := memIn_r _ [836, 837, 298, 299, 300, 301, 304, 0, 305, 117, 308, 1, 309, 310, 951, 952, 953, 954, 784, 955, 957, 61, 958, 311] (by decide +kernel)
set_option maxRecDepth 20000 in
theorem in_wsL_law_r7 : ∀ w ∈ wsL_law_r7, w ∈ lw_tbl := memIn_r _ [312, 313, 314, 959, 960, 961, 962, 963, 964, 965, 315, 316, 317, 318, 247, 321, 2, 322, 133, 138, 139, 140, 141, 143] (by decide +kernel)
set_option maxRecDepth 20000 in
theorem in_wsL_law_r8 : ∀ w ∈ wsL_law_r8, w ∈ lw_tbl := memIn_r _ [147, 149, 136, 323, 325, 3, 326, 134, 137, 329, 4, 330, 331, 332, 333, 334, 335, 336, 337, 339, 5, 340, 342, 343] (by decide +kernel)
set_option maxRecDepth 20000 in
theorem in_wsL_law_r9 : ∀ w ∈ wsL_law_r9, w ∈ lw_tbl := memIn_r _ [344, 96, 345, 1203, 346, 347, 348, 349, 350, 1204, 352, 354, 6, 355, 356, 357, 358, 359, 360, 361, 362, 363, 364, 365] (by decide +kernel)
set_option maxRecDepth 20000 in
theorem in_wsL_law_r10 : ∀ w ∈ wsL_law_r10, w ∈ lw_tbl := memIn_r _ [97, 366, 367, 368, 369, 370, 372, 373, 98, 374, 375, 376, 99, 377, 378, 379, 380, 381, 382, 383, 384, 385, 386, 387] (by decide +kernel)
set_option maxRecDepth 20000 in
theorem in_wsL_law_r11 : ∀ w ∈ wsL_law_r11, w ∈ lw_tbl := memIn_r _ [388, 390, 392, 394, 395, 396, 397, 399, 7, 400, 401, 402, 403, 404, 405, 406, 407, 408, 409, 410, 411, 412, 413, 414] (by decide +kernel)
set_option maxRecDepth 20000 in
theorem in_wsL_law_r12 : ∀ w ∈ wsL_law_r12, w ∈ lw_tbl := memIn_r _ [416, 8, 417, 418, 420, 9, 421, 422, 424, 10, 425, 426, 428, 11, 429, 430, 432, 12, 433, 434, 436, 13, 437, 438] (by decide +kernel)
set_option maxRecDepth 20000 in
theorem in_wsL_law_r13 : ∀ w ∈ wsL_law_r13, w ∈ lw_tbl := memIn_r _ [440, 14, 441, 442, 444, 15, 445, 446, 448, 16, 449, 450, 452, 17, 453, 454, 456, 18, 457, 458, 460, 19, 461, 462] (by decide +kernel)
set_option maxRecDepth 20000 in
theorem in_wsL_law_r14 : ∀ w ∈ wsL_law_r14, w ∈ lw_tbl := memIn_r _ [463, 464, 465, 467, 20, 468, 469, 471, 21, 472, 475, 22, 476, 477, 478, 100, 479, 480, 481, 482, 483, 484, 485, 486] (by decide +kernel)
set_option maxRecDepth 20000 in
theorem in_wsL_law_r15 : ∀ w ∈ wsL_law_r15, w ∈ lw_tbl := memIn_r _ [488, 489, 490, 492, 491, 101, 494, 495, 496, 497, 500, 501, 502, 966, 967, 968, 969, 790, 785, 799, 798, 786, 970, 972] (by decide +kernel)
set_option maxRecDepth 20000 in
theorem in_wsL_law_r16 : ∀ w ∈ wsL_law_r16, w ∈ lw_tbl := memIn_r _ [62, 973, 787, 977, 978, 788, 789, 974, 975, 976, 979, 980, 981, 982, 983, 984, 985, 986, 987, 988, 989, 990, 991, 992] (by decide +kernel)
set_option maxRecDepth 20000 in
theorem in_wsL_law_r17 : ∀ w ∈ wsL_law_r17, w ∈ lw_tbl := memIn_r _ [993, 994, 995, 996, 997, 998, 999, 1000, 1001, 1002, 1003, 1004, 1005, 1006, 1008, 63, 1009, 1010, 1012, 64, 1013, 1014, 1016, 65] (by decide +kernel)
set_option maxRecDepth 20000 in
theorem in_wsL_law_r18 : ∀ w ∈ wsL_law_r18, w ∈ lw_tbl := memIn_r _ [1017, 801, 802, 1018, 1020, 66, 1021, 1022, 1024, 67, 1025, 1026, 1028, 68, 1029, 1030, 1032, 69, 1033, 1034, 1036, 70, 1037, 1038] (by decide +kernel)
set_option maxRecDepth 20000 in
theorem in_wsL_law_r19 : ∀ w ∈ wsL_law_r19, w ∈ lw_tbl := memIn_r _ [1040, 71, 1041, 1042, 1044, 72, 1045, 1046, 1048, 73, 1049, 1050, 1052, 74, 1053, 512, 513, 514, 515, 516, 518, 23, 519, 1054] (by decide +kernel)
set_option maxRecDepth 20000 in
theorem in_wsL_law_r20 : ∀ w ∈ wsL_law_r20, w ∈ lw_tbl := memIn_r _ [1055, 1056, 1057, 1058, 1060, 75, 1061, 520, 521, 522, 523, 258, 526, 24, 527, 217, 528, 530, 25, 531, 532, 535, 26, 536] (by decide +kernel)
set_option maxRecDepth 20000 in
theorem in_wsL_law_r21 : ∀ w ∈ wsL_law_r21, w ∈ lw_tbl := memIn_r _ [537, 539, 27, 540, 1062, 1063, 1064, 1065, 806, 803, 541, 542, 543, 544, 545, 547, 28, 548, 551, 29, 552, 1066, 1067, 1068] (by decide +kernel)
set_option maxRecDepth 20000 in
theorem in_wsL_law_r22 : ∀ w ∈ wsL_law_r22, w ∈ lw_tbl := memIn_r _ [1069, 1070, 1072, 76, 1073, 553, 554, 555, 556, 562, 557, 559, 30, 560, 563, 565, 31, 566, 567, 569, 32, 570, 571, 573] (by decide +kernel)
set_option maxRecDepth 20000 in
theorem in_wsL_law_r23 : ∀ w ∈ wsL_law_r23, w ∈ lw_tbl := memIn_r _ [33, 574, 577, 34, 578, 579, 581, 35, 582, 583, 584, 585, 588, 36, 589, 590, 592, 37, 593, 194, 596, 38, 597, 600] (by decide +kernel)
set_option maxRecDepth 20000 in
theorem in_wsL_law_r24 : ∀ w ∈ wsL_law_r24, w ∈ lw_tbl := memIn_r _ [39, 601, 602, 604, 40, 605, 606, 608, 41, 609, 610, 612, 42, 613, 614, 615, 616, 1095, 1096, 1097, 1098, 1103, 1099, 1101] (by decide +kernel)
set_option maxRecDepth 20000 in
theorem in_wsL_law_r25 : ∀ w ∈ wsL_law_r25, w ∈ lw_tbl := memIn_r _ [78, 1102, 809, 1104, 1106, 79, 1107, 1108, 1110, 80, 1111, 823, 1112, 1114, 81, 1115, 1116, 1118, 82, 1119, 1120, 1121, 1122, 617] (by decide +kernel)
set_option maxRecDepth 20000 in
theorem in_wsL_law_r26 : ∀ w ∈ wsL_law_r26, w ∈ lw_tbl := memIn_r _ [618, 619, 620, 621, 1074, 1075, 1076, 1077, 1078, 1079, 1080, 1081, 622, 623, 624, 625, 626, 627, 628, 629, 631, 633, 43, 634] (by decide +kernel)
set_option maxRecDepth 20000 in
theorem in_wsL_law_r27 : ∀ w ∈ wsL_law_r27, w ∈ lw_tbl := memIn_r _ [1082, 1083, 1084, 1085, 1086, 1087, 1089, 77, 1090, 635, 636, 637, 638, 639, 641, 44, 642, 643, 645, 45, 646, 1091, 1092, 1093] (by decide +kernel)
set_option maxRecDepth 20000 in
theorem in_wsL_law_r28 : ∀ w ∈ wsL_law_r28, w ∈ lw_tbl := memIn_r _ [1094, 647, 648, 649, 650, 260, 651, 653, 46, 654, 655, 657, 47, 658, 659, 661, 48, 662, 671, 672, 673, 665, 49, 666] (by decide +kernel)
set_option maxRecDepth 20000 in
theorem in_wsL_law_r29 : ∀ w ∈ wsL_law_r29, w ∈ lw_tbl := memIn_r _ [669, 50, 670, 674, 676, 51, 677, 678, 680, 52, 681, 682, 684, 53, 685, 259, 686, 688, 54, 689, 1123, 1124, 1125, 1126] (by decide +kernel)
set_option maxRecDepth 20000 in
theorem in_wsL_law_r30 : ∀ w ∈ wsL_law_r30, w ∈ lw_tbl := memIn_r _ [824, 834, 821, 1127, 1129, 83, 1130, 1131, 1133, 84, 1134, 1135, 820, 690, 691, 692, 693, 1136, 1137, 1138, 1139, 694, 695, 696] (by decide +kernel)
set_option maxRecDepth 20000 in
theorem in_wsL_law_r31 : ∀ w ∈ wsL_law_r31, w ∈ lw_tbl := memIn_r _ [697, 1140, 1141, 1142, 1143, 698, 699, 700, 701, 1144, 1145, 1146, 1147, 702, 703, 704, 705, 706, 1148, 1149, 1150, 1151, 1152, 707] (by decide +kernel)
set_option maxRecDepth 20000 in
theorem in_wsL_law_r32 : ∀ w ∈ wsL_law_r32, w ∈ lw_tbl := memIn_r _ [708, 709, 710, 1153, 1154, 1155, 1156, 711, 712, 713, 714, 1157, 1158, 1159, 1160, 715, 716, 717, 718, 720, 721, 722, 1161, 1162] (by decide +kernel)
set_option maxRecDepth 20000 in
theorem in_wsL_law_r33 : ∀ w ∈ wsL_law_r33, w ∈ lw_tbl := memIn_r _ [1163, 1164, 1165, 1166, 1167, 1168, 1169, 1170, 1171, 723, 724, 725, 726, 1172, 1173, 1174, 1175, 727, 728, 729, 730, 733, 55, 734] (by decide +kernel)
set_option maxRecDepth 20000 in
theorem in_wsL_law_r34 : ∀ w ∈ wsL_law_r34, w ∈ lw_tbl := memIn_r _ [736, 735, 1176, 1177, 1178, 1179, 1180, 1181, 1182, 738, 739, 740, 741, 744, 56, 745, 746, 750, 57, 751, 752, 754, 58, 755] (by decide +kernel)
set_option maxRecDepth 20000 in
theorem in_wsL_law_r35 : ∀ w ∈ wsL_law_r35, w ∈ lw_tbl := memIn_r _ [1183, 1184, 1185, 1186, 1187, 1189, 85, 1190, 756, 757, 758, 759, 1191, 1192, 1193, 1194, 760, 761, 762, 763, 764, 766, 59, 767] (by decide +kernel)
set_option maxRecDepth 20000 in
theorem in_wsL_law_r36 : ∀ w ∈ wsL_law_r36, w ∈ lw_tbl := memIn_r _ [770, 60, 771, 772, 1195, 1196, 1197, 1198, 773, 774, 775, 776, 1199, 1200, 1201, 1202] (by decide +kernel)
set_option maxRecDepth 20000 in
theorem in_wsX60 : ∀ w ∈ wsX60, w ∈ lw_tbl := memIn_r _ [261, 263, 265, 267, 269, 271, 273, 275, 277, 279, 281, 283, 285, 287, 289, 291, 293, 295] (by decide +kernel)
set_option maxRecDepth 20000 in
theorem in_wsX70 : ∀ w ∈ wsX70, w ∈ lw_tbl := memIn_r _ [838, 840, 842, 844, 846, 848, 850, 852, 854, 856, 858, 860, 862, 864, 866, 868, 870, 872, 874, 876, 878, 880, 882, 884, 886, 888, 890, 892, 894, 896, 898, 900, 902, 904, 906, 908, 910, 912, 914, 916, 918, 920, 922, 924, 926, 928, 930, 932, 934, 936, 938, 940, 942, 944, 946, 948] (by decide +kernel)
set_option maxRecDepth 20000 in
theorem in_wsX30 : ∀ w ∈ wsX30, w ∈ lw_tbl := memIn_r _ [120, 122] (by decide +kernel)
set_option maxRecDepth 20000 in
theorem in_wsX10 : ∀ w ∈ wsX10, w ∈ lw_tbl := memIn_r _ [150, 152, 154, 156, 158, 160, 162, 164, 166, 168, 170, 172, 174, 176, 178, 180, 182] (by decide +kernel)
set_option maxRecDepth 20000 in
theorem in_wsX50 : ∀ w ∈ wsX50, w ∈ lw_tbl := memIn_r _ [195, 197, 199] (by decide +kernel)
set_option maxRecDepth 20000 in
theorem in_wsX20 : ∀ w ∈ wsX20, w ∈ lw_tbl := memIn_r _ [219, 221, 223, 225] (by decide +kernel)
set_option maxRecDepth 20000 in
theorem in_wsX00 : ∀ w ∈ wsX00, w ∈ lw_tbl := memIn_r _ [236] (by decide +kernel)
set_option maxRecDepth 20000 in
theorem in_wsX40 : ∀ w ∈ wsX40, w ∈ lw_tbl := memIn_r _ [503, 505, 507, 509] (by decide +kernel)
theorem wsL_law_in : ∀ w ∈ wsL_law, w ∈ lw_tbl := (List.forall_mem_append.mpr ⟨(List.forall_mem_append.mpr ⟨(List.forall_mem_append.mpr ⟨(List.forall_mem_append.mpr ⟨(List.forall_mem_append.mpr ⟨(List.forall_mem_append.mpr ⟨(List.forall_mem_append.mpr ⟨(List.forall_mem_append.mpr ⟨(List.forall_mem_append.mpr ⟨(List.forall_mem_append.mpr ⟨in_wsL_law_r1, (List.forall_mem_append.mpr ⟨in_wsL_law_r2, (List.forall_mem_append.mpr ⟨in_wsL_law_r3, (List.forall_mem_append.mpr ⟨in_wsL_law_r4, (List.forall_mem_append.mpr ⟨in_wsL_law_r5, (List.forall_mem_append.mpr ⟨in_wsL_law_r6, (List.forall_mem_append.mpr ⟨in_wsL_law_r7, (List.forall_mem_append.mpr ⟨in_wsL_law_r8, (List.forall_mem_append.mpr ⟨in_wsL_law_r9, (List.forall_mem_append.mpr ⟨in_wsL_law_r10, (List.forall_mem_append.mpr ⟨in_wsL_law_r11, (List.forall_mem_append.mpr ⟨in_wsL_law_r12, (List.forall_mem_append.mpr ⟨in_wsL_law_r13, (List.forall_mem_append.mpr ⟨in_wsL_law_r14, (List.forall_mem_append.mpr ⟨in_wsL_law_r15, (List.forall_mem_append.mpr ⟨in_wsL_law_r16, (List.forall_mem_append.mpr ⟨in_wsL_law_r17, (List.forall_mem_append.mpr ⟨in_wsL_law_r18, (List.forall_mem_append.mpr ⟨in_wsL_law_r19, (List.forall_mem_append.mpr ⟨in_wsL_law_r20, (List.forall_mem_append.mpr ⟨in_wsL_law_r21, (List.forall_mem_append.mpr ⟨in_wsL_law_r22, (List.forall_mem_append.mpr ⟨in_wsL_law_r23, (List.forall_mem_append.mpr ⟨in_wsL_law_r24, (List.forall_mem_append.mpr ⟨in_wsL_law_r25, (List.forall_mem_append.mpr ⟨in_wsL_law_r26, (List.forall_mem_append.mpr ⟨in_wsL_law_r27, (List.forall_mem_append.mpr ⟨in_wsL_law_r28, (List.forall_mem_append.mpr ⟨in_wsL_law_r29, (List.forall_mem_append.mpr ⟨in_wsL_law_r30, (List.forall_mem_append.mpr ⟨in_wsL_law_r31, (List.forall_mem_append.mpr ⟨in_wsL_law_r32, (List.forall_mem_append.mpr ⟨in_wsL_law_r33, (List.forall_mem_append.mpr ⟨in_wsL_law_r34, (List.forall_mem_append.mpr ⟨in_wsL_law_r35, in_wsL_law_r36⟩)⟩)⟩)⟩)⟩)⟩)⟩)⟩)⟩)⟩)⟩)⟩)⟩)⟩)⟩)⟩)⟩)⟩)⟩)⟩)⟩)⟩)⟩)⟩)⟩)⟩)⟩)⟩)⟩)⟩)⟩)⟩)⟩)⟩)⟩), in_wsX60⟩), in_wsX70⟩), in_wsX30⟩), in_wsX10⟩), in_wsX50⟩), in_wsX20⟩), in_wsX00⟩), in_wsX40⟩), fun _ h => absurd h List.not_mem_nil⟩)
theorem inlX0 : ∀ w ∈ wsX00, w ∈ wsL_law := fun _ h => List.mem_append_left _ (List.mem_append_left _ (List.mem_append_right _ h))
theorem inX0 : ∀ w ∈ wsX00, w ∈ lw_tbl := fun w h => wsL_law_in w (inlX0 w h)
theorem inlX1 : ∀ w ∈ wsX10, w ∈ wsL_law := fun _ h => List.mem_append_left _ (List.mem_append_left _ (List.mem_append_left _ (List.mem_append_left _ (List.mem_append_left _ (List.mem_append_right _ h)))))
theorem inX1 : ∀ w ∈ wsX10, w ∈ lw_tbl := fun w h => wsL_law_in w (inlX1 w h)
theorem inlX2 : ∀ w ∈ wsX20, w ∈ wsL_law := fun _ h => List.mem_append_left _ (List.mem_append_left _ (List.mem_append_left _ (List.mem_append_right _ h)))
theorem inX2 : ∀ w ∈ wsX20, w ∈ lw_tbl := fun w h => wsL_law_in w (inlX2 w h)
theorem inlX3 : ∀ w ∈ wsX30, w ∈ wsL_law := fun _ h => List.mem_append_left _ (List.mem_append_left _ (List.mem_append_left _ (List.mem_append_left _ (List.mem_append_left _ (List.mem_append_left _ (List.mem_append_right _ h))))))
theorem inX3 : ∀ w ∈ wsX30, w ∈ lw_tbl := fun w h => wsL_law_in w (inlX3 w h)
theorem inlX4 : ∀ w ∈ wsX40, w ∈ wsL_law := fun _ h => List.mem_append_left _ (List.mem_append_right _ h)
theorem inX4 : ∀ w ∈ wsX40, w ∈ lw_tbl := fun w h => wsL_law_in w (inlX4 w h)
theorem inlX5 : ∀ w ∈ wsX50, w ∈ wsL_law := fun _ h => List.mem_append_left _ (List.mem_append_left _ (List.mem_append_left _ (List.mem_append_left _ (List.mem_append_right _ h))))
theorem inX5 : ∀ w ∈ wsX50, w ∈ lw_tbl := fun w h => wsL_law_in w (inlX5 w h)
theorem inlX6 : ∀ w ∈ wsX60, w ∈ wsL_law := fun _ h => List.mem_append_left _ (List.mem_append_left _ (List.mem_append_left _ (List.mem_append_left _ (List.mem_append_left _ (List.mem_append_left _ (List.mem_append_left _ (List.mem_append_left _ (List.mem_append_right _ h))))))))
theorem inX6 : ∀ w ∈ wsX60, w ∈ lw_tbl := fun w h => wsL_law_in w (inlX6 w h)
theorem inlX7 : ∀ w ∈ wsX70, w ∈ wsL_law := fun _ h => List.mem_append_left _ (List.mem_append_left _ (List.mem_append_left _ (List.mem_append_left _ (List.mem_append_left _ (List.mem_append_left _ (List.mem_append_left _ (List.mem_append_right _ h)))))))
theorem inX7 : ∀ w ∈ wsX70, w ∈ lw_tbl := fun w h => wsL_law_in w (inlX7 w h)
