theorem goodIn_c1 {big a : List Cond} {c : Cond} (hc : GoodIn big [c]) (ha : GoodIn big a) : GoodIn big (c :: a) := fun w h => (List.mem_cons.mp h).elim (fun e => hc w (List.mem_cons.mpr (Or.inl e))) (ha w)
set_option maxRecDepth 20000 in
theorem glX0 : GoodIn wsL_law wsX00 := goodIn_sub inlX0 (by decide +kernel)
set_option maxRecDepth 20000 in
theorem glX1 : GoodIn wsL_law wsX10 := goodIn_sub inlX1 (by decide +kernel)
set_option maxRecDepth 20000 in
theorem glX2 : GoodIn wsL_law wsX20 := goodIn_sub inlX2 (by decide +kernel)
set_option maxRecDepth 20000 in
theorem glX3 : GoodIn wsL_law wsX30 := goodIn_sub inlX3 (by decide +kernel)
set_option maxRecDepth 20000 in
theorem glX4 : GoodIn wsL_law wsX40 := goodIn_sub inlX4 (by decide +kernel)
set_option maxRecDepth 20000 in
theorem glX5 : GoodIn wsL_law wsX50 := goodIn_sub inlX5 (by decide +kernel)
set_option maxRecDepth 20000 in
theorem glX6 : GoodIn wsL_law wsX60 := goodIn_sub inlX6 (by decide +kernel)
set_option maxRecDepth 20000 in
theorem glX7 : GoodIn wsL_law wsX70 := goodIn_sub inlX7 (by decide +kernel)
set_option maxRecDepth 20000 in
theorem g2_wsX6_init_r1 : GoodIn wsL_law wsX6_init_r1 := goodIn_r _ [9, 10, 11, 12, 13, 14, 15, 16, 17, 18, 19, 20, 21, 22, 23, 24, 25, 26, 27, 28, 29, 30, 31, 32] (by decide +kernel) (by decide +kernel)
set_option maxRecDepth 20000 in
theorem g2_wsX6_init_r2 : GoodIn wsL_law wsX6_init_r2 := goodIn_r _ [33, 34, 35, 36, 37, 38, 39, 40, 41, 42, 43, 44, 45, 46, 47, 48, 49, 50, 51, 52, 53, 54, 55, 56] (by decide +kernel) (by decide +kernel)
set_option maxRecDepth 20000 in
theorem g2_wsX6_init_r3 : GoodIn wsL_law wsX6_init_r3 := goodIn_r _ [57, 58, 59, 60, 61, 62, 63, 64, 65, 66, 67, 68, 69, 70, 71, 72, 73, 74, 75, 76, 77, 78, 79, 80] (by decide +kernel) (by decide +kernel)
set_option maxRecDepth 20000 in
theorem g2_wsX6_init_r4 : GoodIn wsL_law wsX6_init_r4 := goodIn_r _ [81] (by decide +kernel) (by decide +kernel)
set_option maxRecDepth 20000 in
theorem g2_X6_init_c : GoodIn wsL_law [Cond.code yX6_init cX6_init 1 none] := goodIn_r _ [8] (by decide +kernel) (by decide +kernel)
theorem g2_X6_init : GoodIn wsL_law wsX6_init := (goodIn_ca (goodIn_ca (goodIn_ca (goodIn_ca (goodIn_ca (goodIn_ca (goodIn_ca (goodIn_c1 g2_X6_init_c g2_wsX6_init_r1) (goodIn_app g2_wsX6_init_r2 (goodIn_app g2_wsX6_init_r3 g2_wsX6_init_r4))) glX3) glX6) glX1) glX5) glX2) glX0)
theorem gL_law_X6_init : GoodIn wsL_law (wsX6_init) := g2_X6_init
set_option maxRecDepth 20000 in
theorem g2_wsX7_init_r1 : GoodIn wsL_law wsX7_init_r1 := goodIn_r _ [85, 10, 11, 48, 86, 34, 87, 88, 89, 90, 91, 92, 93, 94, 95, 96, 97, 98, 99, 100, 101, 102, 103, 104] (by decide +kernel) (by decide +kernel)
set_option maxRecDepth 20000 in
theorem g2_wsX7_init_r2 : GoodIn wsL_law wsX7_init_r2 := goodIn_r _ [105, 30, 106, 32, 107, 108, 109, 110, 111, 112, 113, 114, 115, 116, 117, 118, 119, 120, 121] (by decide +kernel) (by decide +kernel)
set_option maxRecDepth 20000 in
theorem g2_X7_init_c : GoodIn wsL_law [Cond.code yX7_init cX7_init 1 none] := goodIn_r _ [84] (by decide +kernel) (by decide +kernel)
theorem g2_X7_init : GoodIn wsL_law wsX7_init := (goodIn_ca (goodIn_ca (goodIn_c1 g2_X7_init_c g2_wsX7_init_r1) g2_wsX7_init_r2) glX7)
theorem gL_law_X7_init : GoodIn wsL_law (wsX7_init) := g2_X7_init
set_option maxRecDepth 20000 in
theorem g2_X6_feed_c : GoodIn wsL_law [Cond.code yX6_feed cX6_feed 6 (some .int)] := goodIn_r _ [125] (by decide +kernel) (by decide +kernel)
set_option maxRecDepth 20000 in
theorem g2_X6_feed_h : GoodIn wsL_law ([.fieldLink RX6 10 "CrownTable" "tape" "LCrownTable$Tape;", .instanceMethod yX3_hasRoom, .initialized RX3, .selects RX3 yX3_hasRoom yX3_hasRoom, .code yX3_hasRoom cX3_hasRoom 2 (some .boolean), .fieldLink RX3 15 "CrownTable$Tape" "length" "I", .instanceMethod yX3_addFour, .selects RX3 yX3_addFour yX3_addFour, .code yX3_addFour cX3_addFour 3 none, .fieldLink RX3 9 "CrownTable$Tape" "bytes" "[B", .methodLink RX3 19 yX3_hasRoom] : List Cond) := goodIn_r _ [15, 126, 14, 127, 128, 129, 130, 131, 132, 49, 133] (by decide +kernel) (by decide +kernel)
theorem g2_X6_feed : GoodIn wsL_law wsX6_feed := (goodIn_ca (goodIn_ca (goodIn_c1 g2_X6_feed_c g2_X6_feed_h) glX6) glX3)
set_option maxRecDepth 20000 in
theorem gL_law_X6_feed : GoodIn wsL_law (wsV RL 13 RX6 yX6_feed wsX6_feed) := goodIn_app (goodIn_r _ [122, 123, 124, 2] (by decide +kernel) (by decide +kernel)) g2_X6_feed
set_option maxRecDepth 20000 in
theorem g2_X7_feed_c : GoodIn wsL_law [Cond.code yX7_feed cX7_feed 6 (some .int)] := goodIn_r _ [137] (by decide +kernel) (by decide +kernel)
set_option maxRecDepth 20000 in
theorem g2_X7_feed_h : GoodIn wsL_law ([.fieldLink RX7 125 "CrownTableModel" "taped" "I", .methodLink RX7 128 yX7_bytes, .instanceMethod yX7_bytes, .selects RX7 yX7_bytes yX7_bytes, .initialized RX7, .code yX7_bytes cX7_bytes 3 none, .fieldLink RX7 7 "CrownTableModel" "tape" "[B"] : List Cond) := goodIn_r _ [138, 139, 140, 141, 5, 142, 86] (by decide +kernel) (by decide +kernel)
theorem g2_X7_feed : GoodIn wsL_law wsX7_feed := (goodIn_ca (goodIn_c1 g2_X7_feed_c g2_X7_feed_h) glX7)
set_option maxRecDepth 20000 in
theorem gL_law_X7_feed : GoodIn wsL_law (wsV RL 17 RX7 yX7_feed wsX7_feed) := goodIn_app (goodIn_r _ [134, 135, 136, 5] (by decide +kernel) (by decide +kernel)) g2_X7_feed
set_option maxRecDepth 20000 in
theorem g2_X6_end_c : GoodIn wsL_law [Cond.code yX6_end cX6_end 2 (some .int)] := goodIn_r _ [146] (by decide +kernel) (by decide +kernel)
set_option maxRecDepth 20000 in
theorem g2_X6_end_h : GoodIn wsL_law ([.fieldLink RX6 10 "CrownTable" "tape" "LCrownTable$Tape;"] : List Cond) := goodIn_r _ [15] (by decide +kernel) (by decide +kernel)
theorem g2_X6_end : GoodIn wsL_law wsX6_end := (goodIn_ca (goodIn_ca (goodIn_c1 g2_X6_end_c g2_X6_end_h) glX6) glX3)
set_option maxRecDepth 20000 in
theorem gL_law_X6_end : GoodIn wsL_law (wsV RL 18 RX6 yX6_end wsX6_end) := goodIn_app (goodIn_r _ [143, 144, 145, 2] (by decide +kernel) (by decide +kernel)) g2_X6_end
set_option maxRecDepth 20000 in
theorem g2_X7_end_c : GoodIn wsL_law [Cond.code yX7_end cX7_end 2 (some .int)] := goodIn_r _ [150] (by decide +kernel) (by decide +kernel)
set_option maxRecDepth 20000 in
theorem g2_X7_end_h : GoodIn wsL_law ([.fieldLink RX7 125 "CrownTableModel" "taped" "I", .methodLink RX7 132 yX7_in, .static yX7_in, .initialized RX7, .code yX7_in cX7_in 3 (some .boolean)] : List Cond) := goodIn_r _ [138, 151, 152, 5, 153] (by decide +kernel) (by decide +kernel)
theorem g2_X7_end : GoodIn wsL_law wsX7_end := (goodIn_ca (goodIn_c1 g2_X7_end_c g2_X7_end_h) glX7)
set_option maxRecDepth 20000 in
theorem gL_law_X7_end : GoodIn wsL_law (wsV RL 22 RX7 yX7_end wsX7_end) := goodIn_app (goodIn_r _ [147, 148, 149, 5] (by decide +kernel) (by decide +kernel)) g2_X7_end
set_option maxRecDepth 20000 in
theorem g2_wsX6_text_r1 : GoodIn wsL_law wsX6_text_r1 := goodIn_r _ [158, 19, 15, 25, 159, 18, 160, 161, 162, 163, 164, 165, 166, 167, 168, 169, 170, 171, 172, 173, 174, 175, 58, 176] (by decide +kernel) (by decide +kernel)
set_option maxRecDepth 20000 in
theorem g2_wsX6_text_r2 : GoodIn wsL_law wsX6_text_r2 := goodIn_r _ [177, 14, 178, 179, 129, 49, 180, 181, 182, 183, 184, 185, 186, 187, 188, 189, 190, 191, 192, 193, 194, 195, 196, 197] (by decide +kernel) (by decide +kernel)
set_option maxRecDepth 20000 in
theorem g2_wsX6_text_r3 : GoodIn wsL_law wsX6_text_r3 := goodIn_r _ [198, 199, 200, 201, 202, 203, 204, 205, 206, 207, 208, 209, 210, 211, 212, 213, 214, 215, 216, 217, 218, 219, 220, 221] (by decide +kernel) (by decide +kernel)
set_option maxRecDepth 20000 in
theorem g2_wsX6_text_r4 : GoodIn wsL_law wsX6_text_r4 := goodIn_r _ [222, 223, 224, 225, 226, 227, 228, 229, 230, 231, 232, 233, 234, 235, 236, 237, 238, 239, 240, 241, 242, 243, 244, 245] (by decide +kernel) (by decide +kernel)
set_option maxRecDepth 20000 in
theorem g2_wsX6_text_r5 : GoodIn wsL_law wsX6_text_r5 := goodIn_r _ [246, 247, 248, 249, 250, 251, 252, 69, 253, 254, 255, 256, 257, 258, 259, 260, 261, 262, 263, 264, 265, 266, 267, 268] (by decide +kernel) (by decide +kernel)
set_option maxRecDepth 20000 in
theorem g2_wsX6_text_r6 : GoodIn wsL_law wsX6_text_r6 := goodIn_r _ [269, 270, 56, 271, 272, 273, 274, 54, 55, 275, 276, 277, 278, 279, 280, 281, 282, 283, 284, 285, 286, 287, 288, 289] (by decide +kernel) (by decide +kernel)
set_option maxRecDepth 20000 in
theorem g2_wsX6_text_r7 : GoodIn wsL_law wsX6_text_r7 := goodIn_r _ [290, 291, 292, 293, 294, 57, 295, 296, 297, 298, 53, 299, 300, 301, 302, 303, 304, 305, 306, 307, 308, 309, 310, 311] (by decide +kernel) (by decide +kernel)
set_option maxRecDepth 20000 in
theorem g2_wsX6_text_r8 : GoodIn wsL_law wsX6_text_r8 := goodIn_r _ [312, 313, 314, 315, 316, 317, 318, 319, 320, 321, 322, 323, 324, 325, 326, 327, 328, 329, 80, 330, 331, 332, 333, 334] (by decide +kernel) (by decide +kernel)
set_option maxRecDepth 20000 in
theorem g2_wsX6_text_r9 : GoodIn wsL_law wsX6_text_r9 := goodIn_r _ [335, 336, 34, 337, 338, 339, 340, 341, 342, 343, 344, 10, 11, 345, 346, 347, 348] (by decide +kernel) (by decide +kernel)
set_option maxRecDepth 20000 in
theorem g2_X6_text_c : GoodIn wsL_law [Cond.code yX6_text cX6_text 2 (some .int)] := goodIn_r _ [157] (by decide +kernel) (by decide +kernel)
theorem g2_X6_text : GoodIn wsL_law wsX6_text := (goodIn_ca (goodIn_ca (goodIn_ca (goodIn_ca (goodIn_ca (goodIn_c1 g2_X6_text_c g2_wsX6_text_r1) (goodIn_app g2_wsX6_text_r2 (goodIn_app g2_wsX6_text_r3 (goodIn_app g2_wsX6_text_r4 (goodIn_app g2_wsX6_text_r5 (goodIn_app g2_wsX6_text_r6 (goodIn_app g2_wsX6_text_r7 (goodIn_app g2_wsX6_text_r8 g2_wsX6_text_r9)))))))) glX6) glX3) glX1) glX4)
set_option maxRecDepth 20000 in
theorem gL_law_X6_text : GoodIn wsL_law (wsV RL 23 RX6 yX6_text wsX6_text) := goodIn_app (goodIn_r _ [154, 155, 156, 2] (by decide +kernel) (by decide +kernel)) g2_X6_text
set_option maxRecDepth 20000 in
theorem g2_wsX7_text_r1 : GoodIn wsL_law wsX7_text_r1 := goodIn_r _ [353, 354, 355, 356, 87, 357, 138, 358, 359, 360, 5, 361, 86, 362, 363, 364, 365, 366, 367, 368, 369, 370, 371, 372] (by decide +kernel) (by decide +kernel)
set_option maxRecDepth 20000 in
theorem g2_wsX7_text_r2 : GoodIn wsL_law wsX7_text_r2 := goodIn_r _ [373, 374, 375, 376, 377, 378, 379, 380, 381, 382, 383, 384, 385, 386, 387, 388, 389, 390, 391, 392, 393, 394, 395, 396] (by decide +kernel) (by decide +kernel)
set_option maxRecDepth 20000 in
theorem g2_wsX7_text_r3 : GoodIn wsL_law wsX7_text_r3 := goodIn_r _ [397, 398, 399, 400, 90, 91, 88, 89, 401, 402, 403, 404, 405, 406, 407, 408, 409, 410, 94, 411, 412, 413, 414, 415] (by decide +kernel) (by decide +kernel)
set_option maxRecDepth 20000 in
theorem g2_wsX7_text_r4 : GoodIn wsL_law wsX7_text_r4 := goodIn_r _ [416, 417, 418, 419, 420, 421, 422, 423, 424, 425, 426, 427, 428, 429, 430, 92, 93, 151, 152, 153, 431, 432, 433, 434] (by decide +kernel) (by decide +kernel)
set_option maxRecDepth 20000 in
theorem g2_wsX7_text_r5 : GoodIn wsL_law wsX7_text_r5 := goodIn_r _ [435, 436, 437, 438, 439, 440, 441, 442, 443, 444, 445, 446] (by decide +kernel) (by decide +kernel)
set_option maxRecDepth 20000 in
theorem g2_X7_text_c : GoodIn wsL_law [Cond.code yX7_text cX7_text 2 (some .int)] := goodIn_r _ [352] (by decide +kernel) (by decide +kernel)
theorem g2_X7_text : GoodIn wsL_law wsX7_text := (goodIn_ca (goodIn_ca (goodIn_c1 g2_X7_text_c g2_wsX7_text_r1) (goodIn_app g2_wsX7_text_r2 (goodIn_app g2_wsX7_text_r3 (goodIn_app g2_wsX7_text_r4 g2_wsX7_text_r5)))) glX7)
set_option maxRecDepth 20000 in
theorem gL_law_X7_text : GoodIn wsL_law (wsV RL 27 RX7 yX7_text wsX7_text) := goodIn_app (goodIn_r _ [349, 350, 351, 5] (by decide +kernel) (by decide +kernel)) g2_X7_text
