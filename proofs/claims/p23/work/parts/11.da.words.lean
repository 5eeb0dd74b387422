theorem goodIn_c1 {big a : List Cond} {c : Cond} (hc : GoodIn big [c]) (ha : GoodIn big a) : GoodIn big (c :: a) := fun w h => (List.mem_cons.mp h).elim (fun e => hc w (List.mem_cons.mpr (Or.inl e))) (ha w)
set_option maxRecDepth 20000 in
theorem glX0 : GoodIn wsL_law wsX00 := goodIn_sub inlX0 (by decide +kernel)
set_option maxRecDepth 20000 in
theorem glX1 : GoodIn wsL_law wsX10 := goodIn_sub inlX1 (by decide +kernel)
set_option maxRecDepth 20000 in
theorem glX2 : GoodIn wsL_law wsX20 := goodIn_sub inlX2 (by decide +kernel)
set_option maxRecDepth 20000 in
theorem glX3 : GoodIn wsL_law wsX30 := goodIn_sub inlX3 (by decide +kernel)
set_option maxRecDepth 20000 in
theorem glX4 : GoodIn wsL_law wsX40 := goodIn_sub inlX4 (by decide +kernel)
set_option maxRecDepth 20000 in
theorem glX5 : GoodIn wsL_law wsX50 := goodIn_sub inlX5 (by decide +kernel)
set_option maxRecDepth 20000 in
theorem glX6 : GoodIn wsL_law wsX60 := goodIn_sub inlX6 (by decide +kernel)
set_option maxRecDepth 20000 in
theorem glX7 : GoodIn wsL_law wsX70 := goodIn_sub inlX7 (by decide +kernel)
set_option maxRecDepth 20000 in
theorem g2_wsX6_init_r1 : GoodIn wsL_law wsX6_init_r1 := goodIn_r _ [9, 10, 11, 12, 13, 14, 15, 16, 17, 18, 19, 20, 21, 22, 23, 24, 25, 26, 27, 28, 29, 30, 31, 32] (by decide +kernel) (by decide +kernel)
set_option maxRecDepth 20000 in
theorem g2_wsX6_init_r2 : GoodIn wsL_law wsX6_init_r2 := goodIn_r _ [33, 34, 35, 36, 37, 38, 39, 40, 41, 42, 43, 44, 45, 46, 47, 48, 49, 50, 51, 52, 53, 54, 55, 56] (by decide +kernel) (by decide +kernel)
set_option maxRecDepth 20000 in
theorem g2_wsX6_init_r3 : GoodIn wsL_law wsX6_init_r3 := goodIn_r _ [57, 58, 59, 60, 61, 62, 63, 64, 65, 66, 67, 68, 69, 70, 71, 72, 73, 74, 75, 76, 77, 78, 79, 80] (by decide +kernel) (by decide +kernel)
set_option maxRecDepth 20000 in
theorem g2_wsX6_init_r4 : GoodIn wsL_law wsX6_init_r4 := goodIn_r _ [81] (by decide +kernel) (by decide +kernel)
set_option maxRecDepth 20000 in
theorem g2_X6_init_c : GoodIn wsL_law [Cond.code yX6_init cX6_init 1 none] := goodIn_r _ [8] (by decide +kernel) (by decide +kernel)
theorem g2_X6_init : GoodIn wsL_law wsX6_init := (goodIn_ca (goodIn_ca (goodIn_ca (goodIn_ca (goodIn_ca (goodIn_ca (goodIn_ca (goodIn_c1 g2_X6_init_c g2_wsX6_init_r1) (goodIn_app g2_wsX6_init_r2 (goodIn_app g2_wsX6_init_r3 g2_wsX6_init_r4))) glX3) glX6) glX1) glX5) glX2) glX0)
theorem gL_law_X6_init : GoodIn wsL_law (wsX6_init) := g2_X6_init
set_option maxRecDepth 20000 in
theorem g2_wsX7_init_r1 : GoodIn wsL_law wsX7_init_r1 := goodIn_r _ [85, 10, 11, 48, 86, 34, 87, 88, 89, 90, 91, 92, 93, 94, 95, 96, 97, 98, 99, 100, 101, 102, 103, 104] (by decide +kernel) (by decide +kernel)
set_option maxRecDepth 20000 in
theorem g2_wsX7_init_r2 : GoodIn wsL_law wsX7_init_r2 := goodIn_r _ [105, 30, 106, 32, 107, 108, 109, 110, 111, 112, 113, 114, 115, 116, 117, 118, 119, 120, 121] (by decide +kernel) (by decide +kernel)
set_option maxRecDepth 20000 in
theorem g2_X7_init_c : GoodIn wsL_law [Cond.code yX7_init cX7_init 1 none] := goodIn_r _ [84] (by decide +kernel) (by decide +kernel)
theorem g2_X7_init : GoodIn wsL_law wsX7_init := (goodIn_ca (goodIn_ca (goodIn_c1 g2_X7_init_c g2_wsX7_init_r1) g2_wsX7_init_r2) glX7)
theorem gL_law_X7_init : GoodIn wsL_law (wsX7_init) := g2_X7_init
set_option maxRecDepth 20000 in
theorem g2_X6_feed_c : GoodIn wsL_law [Cond.code yX6_feed cX6_feed 6 (some .int)] := goodIn_r _ [125] (by decide +kernel) (by decide +kernel)
set_option maxRecDepth 20000 in
theorem g2_X6_feed_h : GoodIn wsL_law ([.fieldLink RX6 10 "CrownTable" "tape" "LCrownTable$Tape;", .instanceMethod yX3_hasRoom, .initialized RX3, .selects RX3 yX3_hasRoom yX3_hasRoom, .code yX3_hasRoom cX3_hasRoom 2 (some .boolean), .fieldLink RX3 15 "CrownTable$Tape" "length" "I", .instanceMethod yX3_addFour, .selects RX3 yX3_addFour yX3_addFour, .code yX3_addFour cX3_addFour 3 none, .fieldLink RX3 9 "CrownTable$Tape" "bytes" "[B", .methodLink RX3 19 yX3_hasRoom] : List Cond) := goodIn_r _ [15, 126, 14, 127, 128, 129, 130, 131, 132, 49, 133] (by decide +kernel) (by decide +kernel)
theorem g2_X6_feed : GoodIn wsL_law wsX6_feed := (goodIn_ca (goodIn_ca (goodIn_c1 g2_X6_feed_c g2_X6_feed_h) glX6) glX3)
set_option maxRecDepth 20000 in
theorem gL_law_X6_feed : GoodIn wsL_law (wsV RL 13 RX6 yX6_feed wsX6_feed) := goodIn_app (goodIn_r _ [122, 123, 124, 2] (by decide +kernel) (by decide +kernel)) g2_X6_feed
set_option maxRecDepth 20000 in
theorem g2_X7_feed_c : GoodIn wsL_law [Cond.code yX7_feed cX7_feed 6 (some .int)] := goodIn_r _ [137] (by decide +kernel) (by decide +kernel)
set_option maxRecDepth 20000 in
theorem g2_X7_feed_h : GoodIn wsL_law ([.fieldLink RX7 125 "CrownTableModel" "taped" "I", .methodLink RX7 128 yX7_bytes, .instanceMethod yX7_bytes, .selects RX7 yX7_bytes yX7_bytes, .initialized RX7, .code yX7_bytes cX7_bytes 3 none, .fieldLink RX7 7 "CrownTableModel" "tape" "[B"] : List Cond) := goodIn_r _ [138, 139, 140, 141, 5, 142, 86] (by decide +kernel) (by decide +kernel)
theorem g2_X7_feed : GoodIn wsL_law wsX7_feed := (goodIn_ca (goodIn_c1 g2_X7_feed_c g2_X7_feed_h) glX7)
set_option maxRecDepth 20000 in
theorem gL_law_X7_feed : GoodIn wsL_law (wsV RL 17 RX7 yX7_feed wsX7_feed) := goodIn_app (goodIn_r _ [134, 135, 136, 5] (by decide +kernel) (by decide +kernel)) g2_X7_feed
set_option maxRecDepth 20000 in
theorem g2_X6_end_c : GoodIn wsL_law [Cond.code yX6_end cX6_end 2 (some .int)] := goodIn_r _ [146] (by decide +kernel) (by decide +kernel)
set_option maxRecDepth 20000 in
theorem g2_X6_end_h : GoodIn wsL_law ([.fieldLink RX6 10 "CrownTable" "tape" "LCrownTable$Tape;"] : List Cond) := goodIn_r _ [15] (by decide +kernel) (by decide +kernel)
theorem g2_X6_end : GoodIn wsL_law wsX6_end := (goodIn_ca (goodIn_ca (goodIn_c1 g2_X6_end_c g2_X6_end_h) glX6) glX3)
set_option maxRecDepth 20000 in
theorem gL_law_X6_end : GoodIn wsL_law (wsV RL 18 RX6 yX6_end wsX6_end) := goodIn_app (goodIn_r _ [143, 144, 145, 2] (by decide +kernel) (by decide +kernel)) g2_X6_end
set_option maxRecDepth 20000 in
theorem g2_X7_end_c : GoodIn wsL_law [Cond.code yX7_end cX7_end 2 (some .int)] := goodIn_r _ [150] (by decide +kernel) (by decide +kernel)
set_option maxRecDepth 20000 in
theorem g2_X7_end_h : GoodIn wsL_law ([.fieldLink RX7 125 "CrownTableModel" "taped" "I", .methodLink RX7 132 yX7_in, .static yX7_in, .initialized RX7, .code yX7_in cX7_in 3 (some .boolean)] : List Cond) := goodIn_r _ [138, 151, 152, 5, 153] (by decide +kernel) (by decide +kernel)
theorem g2_X7_end : GoodIn wsL_law wsX7_end := (goodIn_ca (goodIn_c1 g2_X7_end_c g2_X7_end_h) glX7)
set_option maxRecDepth 20000 in
theorem gL_law_X7_end : GoodIn wsL_law (wsV RL 22 RX7 yX7_end wsX7_end) := goodIn_app (goodIn_r _ [147, 148, 149, 5] (by decide +kernel) (by decide +kernel)) g2_X7_end
set_option maxRecDepth 20000 in
theorem g2_wsX6_text_r1 : GoodIn wsL_law wsX6_text_r1 := goodIn_r _ [158, 19, 15, 25, 159, 18, 160, 161, 162, 163, 164, 165, 166, 167, 168, 169, 170, 171, 172, 173, 174, 175, 58, 176] (by decide +kernel) (by decide +kernel)
set_option maxRecDepth 20000 in
theorem g2_wsX6_text_r2 : GoodIn wsL_law wsX6_text_r2 := goodIn_r _ [177, 14, 178, 179, 129, 49, 180, 181, 182, 183, 184, 185, 186, 187, 188, 189, 190, 191, 192, 193, 194, 195, 196, 197] (by decide +kernel) (by decide +kernel)
set_option maxRecDepth 20000 in
theorem g2_wsX6_text_r3 : GoodIn wsL_law wsX6_text_r3 := goodIn_r _ [198, 199, 200, 201, 202, 203, 204, 205, 206, 207, 208, 209, 210, 211, 212, 213, 214, 215, 216, 217, 218, 219, 220, 221] (by decide +kernel) (by decide +kernel)
set_option maxRecDepth 20000 in
theorem g2_wsX6_text_r4 : GoodIn wsL_law wsX6_text_r4 := goodIn_r _ [222, 223, 224, 225, 226, 227, 228, 229, 230, 231, 232, 233, 234, 235, 236, 237, 238, 239, 240, 241, 242, 243, 244, 245] (by decide +kernel) (by decide +kernel)
set_option maxRecDepth 20000 in
theorem g2_wsX6_text_r5 : GoodIn wsL_law wsX6_text_r5 := goodIn_r _ [246, 247, 248, 249, 250, 251, 252, 69, 253, 254, 255, 256, 257, 258, 259, 260, 261, 262, 263, 264, 265, 266, 267, 268] (by decide +kernel) (by decide +kernel)
set_option maxRecDepth 20000 in
theorem g2_wsX6_text_r6 : GoodIn wsL_law wsX6_text_r6 := goodIn_r _ [269, 270, 56, 271, 272, 273, 274, 54, 55, 275, 276, 277, 278, 279, 280, 281, 282, 283, 284, 285, 286, 287, 288, 289] (by decide +kernel) (by decide +kernel)
set_option maxRecDepth 20000 in
theorem g2_wsX6_text_r7 : GoodIn wsL_law wsX6_text_r7 := goodIn_r _ [290, 291, 292, 293, 294, 57, 295, 296, 297, 298, 53, 299, 300, 301, 302, 303, 304, 305, 306, 307, 308, 309, 310, 311] (by decide +kernel) (by decide +kernel)
set_option maxRecDepth 20000 in
theorem g2_wsX6_text_r8 : GoodIn wsL_law wsX6_text_r8 := goodIn_r _ [312, 313, 314, 315, 316, 317, 318, 319, 320, 321, 322, 323, 324, 325, 326, 327, 328, 329, 80, 330, 331, 332, 333, 334] (by decide +kernel) (by decide +kernel)
set_option maxRecDepth 20000 in
theorem g2_wsX6_text_r9 : GoodIn wsL_law wsX6_text_r9 := goodIn_r _ [335, 336, 34, 337, 338, 339, 340, 341, 342, 343, 344, 10, 11, 345, 346, 347, 348] (by decide +kernel) (by decide +kernel)
set_option maxRecDepth 20000 in
theorem g2_X6_text_c : GoodIn wsL_law [Cond.code yX6_text cX6_text 2 (some .int)] := goodIn_r _ [157] (by decide +kernel) (by decide +kernel)
theorem g2_X6_text : GoodIn wsL_law wsX6_text := (goodIn_ca (goodIn_ca (goodIn_ca (goodIn_ca (goodIn_ca (goodIn_c1 g2_X6_text_c g2_wsX6_text_r1) (goodIn_app g2_wsX6_text_r2 (goodIn_app g2_wsX6_text_r3 (goodIn_app g2_wsX6_text_r4 (goodIn_app g2_wsX6_text_r5 (goodIn_app g2_wsX6_text_r6 (goodIn_app g2_wsX6_text_r7 (goodIn_app g2_wsX6_text_r8 g2_wsX6_text_r9)))))))) glX6) glX3) glX1) glX4)
set_option maxRecDepth 20000 in
theorem gL_law_X6_text : GoodIn wsL_law (wsV RL 23 RX6 yX6_text wsX6_text) := goodIn_app (goodIn_r _ [154, 155, 156, 2] (by decide +kernel) (by decide +kernel)) g2_X6_text
set_option maxRecDepth 20000 in
theorem g2_wsX7_text_r1 : GoodIn wsL_law wsX7_text_r1 := goodIn_r _ [353, 354, 355, 356, 87, 357, 138, 358, 359, 360, 5, 361, 86, 362, 363, 364, 365, 366, 367, 368, 369, 370, 371, 372] (by decide +kernel) (by decide +kernel)
set_option maxRecDepth 20000 in
theorem g2_wsX7_text_r2 : GoodIn wsL_law wsX7_text_r2 := goodIn_r _ [373, 374, 375, 376, 377, 378, 379, 380, 381, 382, 383, 384, 385, 386, 387, 388, 389, 390, 391, 392, 393, 394, 395, 396] (by decide +kernel) (by decide +kernel)
set_option maxRecDepth 20000 in
theorem g2_wsX7_text_r3 : GoodIn wsL_law wsX7_text_r3 := goodIn_r _ [397, 398, 399, 400, 90, 91, 88, 89, 401, 402, 403, 404, 405, 406, 407, 408, 409, 410, 94, 411, 412, 413, 414, 415] (by decide +kernel) (by decide +kernel)
set_option maxRecDepth 20000 in
theorem g2_wsX7_text_r4 : GoodIn wsL_law wsX7_text_r4 := goodIn_r _ [416, 417, 418, 419, 420, 421, 422, 423, 424, 425, 426, 427, 428, 429, 430, 92, 93, 151, 152, 153, 431, 432, 433, 434] (by decide +kernel) (by decide +kernel)
set_option maxRecDepth 20000 in
theorem g2_wsX7_text_r5 : GoodIn wsL_law wsX7_text_r5 := goodIn_r _ [435, 436, 437, 438, 439, 440, 441, 442, 443, 444, 445, 446] (by decide +kernel) (by decide +kernel)
set_option maxRecDepth 20000 in
theorem g2_X7_text_c : GoodIn wsL_law [Cond.code yX7_text cX7_text 2 (some .int)] := goodIn_r _ [352] (by decide +kernel) (by decide +kernel)
theorem g2_X7_text : GoodIn wsL_law wsX7_text := (goodIn_ca (goodIn_ca (goodIn_c1 g2_X7_text_c g2_wsX7_text_r1) (goodIn_app g2_wsX7_text_r2 (goodIn_app g2_wsX7_text_r3 (goodIn_app g2_wsX7_text_r4 g2_wsX7_text_r5)))) glX7)
set_option maxRecDepth 20000 in
theorem gL_law_X7_text : GoodIn wsL_law (wsV RL 27 RX7 yX7_text wsX7_text) := goodIn_app (goodIn_r _ [349, 350, 351, 5] (by decide +kernel) (by decide +kernel)) g2_X7_text

set_option maxRecDepth 20000 in
theorem g2_X6_statements_c : GoodIn wsL_law [Cond.code yX6_statements cX6_statements 3 (some .int)] := goodIn_r _ [450] (by decide +kernel) (by decide +kernel)
set_option maxRecDepth 20000 in
theorem g2_X6_statements_h : GoodIn wsL_law ([.methodLink RX6 113 yX6_textOf, .instanceMethod yX6_textOf, .selects RX6 yX6_textOf yX6_textOf, .initialized RX6, .code yX6_textOf cX6_textOf 2 (some (.object "CrownTable$Text")), .fieldLink RX6 99 "CrownTable" "textsRead" "I", .fieldLink RX6 34 "CrownTable" "texts" "[LCrownTable$Text;"] : List Cond) := goodIn_r _ [451, 452, 453, 2, 454, 158, 25] (by decide +kernel) (by decide +kernel)
theorem g2_X6_statements : GoodIn wsL_law wsX6_statements := (goodIn_ca (goodIn_ca (goodIn_c1 g2_X6_statements_c g2_X6_statements_h) glX4) glX6)
set_option maxRecDepth 20000 in
theorem gL_law_X6_statements : GoodIn wsL_law (wsV RL 28 RX6 yX6_statements wsX6_statements) := goodIn_app (goodIn_r _ [447, 448, 449, 2] (by decide +kernel) (by decide +kernel)) g2_X6_statements
set_option maxRecDepth 20000 in
theorem g2_X7_statements_c : GoodIn wsL_law [Cond.code yX7_statements cX7_statements 2 (some .int)] := goodIn_r _ [458] (by decide +kernel) (by decide +kernel)
set_option maxRecDepth 20000 in
theorem g2_X7_statements_h : GoodIn wsL_law ([.fieldLink RX7 13 "CrownTableModel" "many" "[I", .methodLink RX7 264 yX7_isText, .instanceMethod yX7_isText, .selects RX7 yX7_isText yX7_isText, .initialized RX7, .code yX7_isText cX7_isText 2 (some .boolean), .fieldLink RX7 220 "CrownTableModel" "texts" "I", .methodLink RX7 132 yX7_in, .static yX7_in, .code yX7_in cX7_in 3 (some .boolean)] : List Cond) := goodIn_r _ [87, 459, 460, 461, 5, 462, 353, 151, 152, 153] (by decide +kernel) (by decide +kernel)
theorem g2_X7_statements : GoodIn wsL_law wsX7_statements := (goodIn_ca (goodIn_c1 g2_X7_statements_c g2_X7_statements_h) glX7)
set_option maxRecDepth 20000 in
theorem gL_law_X7_statements : GoodIn wsL_law (wsV RL 31 RX7 yX7_statements wsX7_statements) := goodIn_app (goodIn_r _ [455, 456, 457, 5] (by decide +kernel) (by decide +kernel)) g2_X7_statements
set_option maxRecDepth 20000 in
theorem g2_wsX6_force_r1 : GoodIn wsL_law wsX6_force_r1 := goodIn_r _ [467, 29, 451, 452, 453, 2, 454, 158, 25, 468, 28, 469, 470, 471, 71, 73, 472, 473, 474, 475, 72, 476, 329, 80] (by decide +kernel) (by decide +kernel)
set_option maxRecDepth 20000 in
theorem g2_wsX6_force_r2 : GoodIn wsL_law wsX6_force_r2 := goodIn_r _ [330, 331, 332, 333, 334, 335, 336, 34, 337, 252, 69, 253, 338, 339, 340, 341, 477, 478, 479, 480, 481, 482, 483] (by decide +kernel) (by decide +kernel)
set_option maxRecDepth 20000 in
theorem g2_X6_force_c : GoodIn wsL_law [Cond.code yX6_force cX6_force 4 (some .int)] := goodIn_r _ [466] (by decide +kernel) (by decide +kernel)
theorem g2_X6_force : GoodIn wsL_law wsX6_force := (goodIn_ca (goodIn_ca (goodIn_ca (goodIn_c1 g2_X6_force_c g2_wsX6_force_r1) g2_wsX6_force_r2) glX6) glX2)
set_option maxRecDepth 20000 in
theorem gL_law_X6_force : GoodIn wsL_law (wsV RL 32 RX6 yX6_force wsX6_force) := goodIn_app (goodIn_r _ [463, 464, 465, 2] (by decide +kernel) (by decide +kernel)) g2_X6_force
set_option maxRecDepth 20000 in
theorem g2_X7_force_c : GoodIn wsL_law [Cond.code yX7_force cX7_force 3 (some .int)] := goodIn_r _ [487] (by decide +kernel) (by decide +kernel)
set_option maxRecDepth 20000 in
theorem g2_X7_force_h : GoodIn wsL_law ([.fieldLink RX7 267 "CrownTableModel" "term" "I", .fieldLink RX7 270 "CrownTableModel" "forces" "I", .fieldLink RX7 38 "CrownTableModel" "forceText" "[I", .fieldLink RX7 41 "CrownTableModel" "forceFrom" "[I", .methodLink RX7 264 yX7_isText, .instanceMethod yX7_isText, .selects RX7 yX7_isText yX7_isText, .initialized RX7, .code yX7_isText cX7_isText 2 (some .boolean), .fieldLink RX7 220 "CrownTableModel" "texts" "I", .methodLink RX7 132 yX7_in, .static yX7_in, .code yX7_in cX7_in 3 (some .boolean)] : List Cond) := goodIn_r _ [488, 489, 95, 96, 459, 460, 461, 5, 462, 353, 151, 152, 153] (by decide +kernel) (by decide +kernel)
theorem g2_X7_force : GoodIn wsL_law wsX7_force := (goodIn_ca (goodIn_c1 g2_X7_force_c g2_X7_force_h) glX7)
set_option maxRecDepth 20000 in
theorem gL_law_X7_force : GoodIn wsL_law (wsV RL 36 RX7 yX7_force wsX7_force) := goodIn_app (goodIn_r _ [484, 485, 486, 5] (by decide +kernel) (by decide +kernel)) g2_X7_force
set_option maxRecDepth 20000 in
theorem g2_X6_inForce_c : GoodIn wsL_law [Cond.code yX6_inForce cX6_inForce 2 (some .int)] := goodIn_r _ [493] (by decide +kernel) (by decide +kernel)
set_option maxRecDepth 20000 in
theorem g2_X6_inForce_h : GoodIn wsL_law ([.methodLink RX6 131 yX6_textInForce, .instanceMethod yX6_textInForce, .selects RX6 yX6_textInForce yX6_textInForce, .initialized RX6, .code yX6_textInForce cX6_textInForce 3 (some .int), .fieldLink RX6 43 "CrownTable" "forces" "LCrownTable$Rows;", .instanceMethod yX2_get, .initialized RX2, .selects RX2 yX2_get yX2_get, .code yX2_get cX2_get 3 (some .int), .fieldLink RX2 24 "CrownTable$Rows" "cells" "[I", .fieldLink RX2 15 "CrownTable$Rows" "width" "I", .methodLink RX2 41 yX2_has, .instanceMethod yX2_has, .selects RX2 yX2_has yX2_has, .code yX2_has cX2_has 3 (some .boolean), .fieldLink RX2 28 "CrownTable$Rows" "size" "I"] : List Cond) := goodIn_r _ [494, 495, 496, 2, 497, 29, 498, 28, 499, 500, 73, 71, 480, 481, 482, 483, 471] (by decide +kernel) (by decide +kernel)
theorem g2_X6_inForce : GoodIn wsL_law wsX6_inForce := (goodIn_ca (goodIn_ca (goodIn_c1 g2_X6_inForce_c g2_X6_inForce_h) glX6) glX2)
set_option maxRecDepth 20000 in
theorem gL_law_X6_inForce : GoodIn wsL_law (wsV RL 37 RX6 yX6_inForce wsX6_inForce) := goodIn_app (goodIn_r _ [490, 491, 492, 2] (by decide +kernel) (by decide +kernel)) g2_X6_inForce
set_option maxRecDepth 20000 in
theorem g2_X7_inForce_c : GoodIn wsL_law [Cond.code yX7_inForce cX7_inForce 2 (some .int)] := goodIn_r _ [504] (by decide +kernel) (by decide +kernel)
set_option maxRecDepth 20000 in
theorem g2_X7_inForce_h : GoodIn wsL_law ([.methodLink RX7 132 yX7_in, .static yX7_in, .initialized RX7, .code yX7_in cX7_in 3 (some .boolean), .methodLink RX7 273 yX7_forceAt, .instanceMethod yX7_forceAt, .selects RX7 yX7_forceAt yX7_forceAt, .code yX7_forceAt cX7_forceAt 3 (some .int), .fieldLink RX7 270 "CrownTableModel" "forces" "I", .fieldLink RX7 41 "CrownTableModel" "forceFrom" "[I", .fieldLink RX7 38 "CrownTableModel" "forceText" "[I"] : List Cond) := goodIn_r _ [151, 152, 5, 153, 505, 506, 507, 508, 489, 96, 95] (by decide +kernel) (by decide +kernel)
theorem g2_X7_inForce : GoodIn wsL_law wsX7_inForce := (goodIn_ca (goodIn_c1 g2_X7_inForce_c g2_X7_inForce_h) glX7)
set_option maxRecDepth 20000 in
theorem gL_law_X7_inForce : GoodIn wsL_law (wsV RL 40 RX7 yX7_inForce wsX7_inForce) := goodIn_app (goodIn_r _ [501, 502, 503, 5] (by decide +kernel) (by decide +kernel)) g2_X7_inForce
set_option maxRecDepth 20000 in
theorem g2_wsX6_would_r1 : GoodIn wsL_law wsX6_would_r1 := goodIn_r _ [513, 38, 23, 451, 452, 453, 2, 454, 158, 25, 514, 515, 516, 517, 481, 28, 482, 483, 471, 71, 498, 499, 500, 73] (by decide +kernel) (by decide +kernel)
set_option maxRecDepth 20000 in
theorem g2_wsX6_would_r2 : GoodIn wsL_law wsX6_would_r2 := goodIn_r _ [480, 518, 519, 520, 521, 522, 523, 524, 525, 526, 527, 528, 529, 467, 530, 22, 531, 532, 62, 533, 534, 535, 536, 33] (by decide +kernel) (by decide +kernel)
set_option maxRecDepth 20000 in
theorem g2_wsX6_would_r3 : GoodIn wsL_law wsX6_would_r3 := goodIn_r _ [537, 538, 539, 540, 541, 542, 543, 544, 545, 546, 547, 548, 327, 549, 550, 347, 348, 551, 552, 553, 554, 555, 556, 557] (by decide +kernel) (by decide +kernel)
set_option maxRecDepth 20000 in
theorem g2_wsX6_would_r4 : GoodIn wsL_law wsX6_would_r4 := goodIn_r _ [558, 559, 560, 561, 63, 562, 563, 564, 565, 566, 567, 568] (by decide +kernel) (by decide +kernel)
set_option maxRecDepth 20000 in
theorem g2_X6_would_c : GoodIn wsL_law [Cond.code yX6_would cX6_would 6 (some .int)] := goodIn_r _ [512] (by decide +kernel) (by decide +kernel)
theorem g2_X6_would : GoodIn wsL_law wsX6_would := (goodIn_ca (goodIn_ca (goodIn_ca (goodIn_ca (goodIn_ca (goodIn_c1 g2_X6_would_c g2_wsX6_would_r1) (goodIn_app g2_wsX6_would_r2 (goodIn_app g2_wsX6_would_r3 g2_wsX6_would_r4))) glX6) glX2) glX5) glX4)
set_option maxRecDepth 20000 in
theorem gL_law_X6_would : GoodIn wsL_law (wsV RL 41 RX6 yX6_would wsX6_would) := goodIn_app (goodIn_r _ [509, 510, 511, 2] (by decide +kernel) (by decide +kernel)) g2_X6_would
set_option maxRecDepth 20000 in
theorem g2_wsX7_would_r1 : GoodIn wsL_law wsX7_would_r1 := goodIn_r _ [102, 573, 459, 460, 461, 5, 462, 353, 151, 152, 153, 574, 575, 576, 577, 578, 579, 580, 581, 582, 87, 583, 584, 585] (by decide +kernel) (by decide +kernel)
set_option maxRecDepth 20000 in
theorem g2_wsX7_would_r2 : GoodIn wsL_law wsX7_would_r2 := goodIn_r _ [586, 90, 91, 587, 92, 109, 93, 588, 589, 590, 591, 99, 488, 103, 100, 107, 104, 592, 593, 594, 595, 596, 597, 598] (by decide +kernel) (by decide +kernel)
set_option maxRecDepth 20000 in
theorem g2_X7_would_c : GoodIn wsL_law [Cond.code yX7_would cX7_would 4 (some .int)] := goodIn_r _ [572] (by decide +kernel) (by decide +kernel)
theorem g2_X7_would : GoodIn wsL_law wsX7_would := (goodIn_ca (goodIn_ca (goodIn_c1 g2_X7_would_c g2_wsX7_would_r1) g2_wsX7_would_r2) glX7)
set_option maxRecDepth 20000 in
theorem gL_law_X7_would : GoodIn wsL_law (wsV RL 45 RX7 yX7_would wsX7_would) := goodIn_app (goodIn_r _ [569, 570, 571, 5] (by decide +kernel) (by decide +kernel)) g2_X7_would
set_option maxRecDepth 20000 in
theorem g2_X6_shire_c : GoodIn wsL_law [Cond.code yX6_shire cX6_shire 4 (some .int)] := goodIn_r _ [602] (by decide +kernel) (by decide +kernel)
set_option maxRecDepth 20000 in
theorem g2_X6_shire_h : GoodIn wsL_law ([.constant RX6 165 (100000), .fieldLink RX6 59 "CrownTable" "farms" "[I", .fieldLink RX6 62 "CrownTable" "sheriffs" "[I", .methodLink RX6 166 yX6_isPerson, .static yX6_isPerson, .initialized RX6, .code yX6_isPerson cX6_isPerson 1 (some .boolean)] : List Cond) := goodIn_r _ [603, 36, 37, 537, 538, 2, 539] (by decide +kernel) (by decide +kernel)
theorem g2_X6_shire : GoodIn wsL_law wsX6_shire := (goodIn_ca (goodIn_c1 g2_X6_shire_c g2_X6_shire_h) glX6)
set_option maxRecDepth 20000 in
theorem gL_law_X6_shire : GoodIn wsL_law (wsV RL 46 RX6 yX6_shire wsX6_shire) := goodIn_app (goodIn_r _ [599, 600, 601, 2] (by decide +kernel) (by decide +kernel)) g2_X6_shire
set_option maxRecDepth 20000 in
theorem g2_X7_shire_c : GoodIn wsL_law [Cond.code yX7_shire cX7_shire 4 (some .int)] := goodIn_r _ [607] (by decide +kernel) (by decide +kernel)
set_option maxRecDepth 20000 in
theorem g2_X7_shire_h : GoodIn wsL_law ([.constant RX7 280 (100000), .fieldLink RX7 44 "CrownTableModel" "farm" "[I", .fieldLink RX7 47 "CrownTableModel" "sheriff" "[I", .methodLink RX7 132 yX7_in, .static yX7_in, .initialized RX7, .code yX7_in cX7_in 3 (some .boolean), .methodLink RX7 281 yX7_isPerson, .static yX7_isPerson, .code yX7_isPerson cX7_isPerson 1 (some .boolean)] : List Cond) := goodIn_r _ [608, 97, 98, 151, 152, 5, 153, 609, 610, 611] (by decide +kernel) (by decide +kernel)
theorem g2_X7_shire : GoodIn wsL_law wsX7_shire := (goodIn_ca (goodIn_c1 g2_X7_shire_c g2_X7_shire_h) glX7)
set_option maxRecDepth 20000 in
theorem gL_law_X7_shire : GoodIn wsL_law (wsV RL 49 RX7 yX7_shire wsX7_shire) := goodIn_app (goodIn_r _ [604, 605, 606, 5] (by decide +kernel) (by decide +kernel)) g2_X7_shire

set_option maxRecDepth 20000 in
theorem g2_wsX6_debt_r1 : GoodIn wsL_law wsX6_debt_r1 := goodIn_r _ [38, 537, 538, 2, 539, 616, 617, 618, 619, 473, 28, 474, 475, 471, 72, 620, 621, 622, 623, 467, 468, 469, 470, 71] (by decide +kernel) (by decide +kernel)
set_option maxRecDepth 20000 in
theorem g2_wsX6_debt_r2 : GoodIn wsL_law wsX6_debt_r2 := goodIn_r _ [73, 472, 476, 329, 80, 330, 331, 332, 333, 334, 335, 336, 34, 337, 252, 69, 253, 338, 339, 340, 341, 477, 478, 479] (by decide +kernel) (by decide +kernel)
set_option maxRecDepth 20000 in
theorem g2_wsX6_debt_r3 : GoodIn wsL_law wsX6_debt_r3 := goodIn_r _ [480, 481, 482, 483] (by decide +kernel) (by decide +kernel)
set_option maxRecDepth 20000 in
theorem g2_X6_debt_c : GoodIn wsL_law [Cond.code yX6_debt cX6_debt 6 (some .int)] := goodIn_r _ [615] (by decide +kernel) (by decide +kernel)
theorem g2_X6_debt : GoodIn wsL_law wsX6_debt := (goodIn_ca (goodIn_ca (goodIn_ca (goodIn_c1 g2_X6_debt_c g2_wsX6_debt_r1) (goodIn_app g2_wsX6_debt_r2 g2_wsX6_debt_r3)) glX6) glX2)
set_option maxRecDepth 20000 in
theorem gL_law_X6_debt : GoodIn wsL_law (wsV RL 50 RX6 yX6_debt wsX6_debt) := goodIn_app (goodIn_r _ [612, 613, 614, 2] (by decide +kernel) (by decide +kernel)) g2_X6_debt
set_option maxRecDepth 20000 in
theorem g2_X7_debt_c : GoodIn wsL_law [Cond.code yX7_debt cX7_debt 5 (some .int)] := goodIn_r _ [627] (by decide +kernel) (by decide +kernel)
set_option maxRecDepth 20000 in
theorem g2_X7_debt_h : GoodIn wsL_law ([.constant RX7 284 (1000000), .fieldLink RX7 277 "CrownTableModel" "debts" "I", .methodLink RX7 281 yX7_isPerson, .static yX7_isPerson, .initialized RX7, .code yX7_isPerson cX7_isPerson 1 (some .boolean), .methodLink RX7 132 yX7_in, .static yX7_in, .code yX7_in cX7_in 3 (some .boolean), .methodLink RX7 285 yX7_owes, .instanceMethod yX7_owes, .selects RX7 yX7_owes yX7_owes, .code yX7_owes cX7_owes 6 (some .int), .fieldLink RX7 50 "CrownTableModel" "debtor" "[I", .fieldLink RX7 53 "CrownTableModel" "kind" "[I", .fieldLink RX7 56 "CrownTableModel" "whole" "[I", .fieldLink RX7 59 "CrownTableModel" "left" "[I", .fieldLink RX7 62 "CrownTableModel" "made" "[I", .fieldLink RX7 267 "CrownTableModel" "term" "I", .fieldLink RX7 65 "CrownTableModel" "pledge" "[I", .fieldLink RX7 68 "CrownTableModel" "pardoned" "[I"] : List Cond) := goodIn_r _ [628, 578, 609, 610, 5, 611, 151, 152, 153, 629, 630, 631, 632, 99, 100, 101, 102, 103, 488, 104, 105] (by decide +kernel) (by decide +kernel)
theorem g2_X7_debt : GoodIn wsL_law wsX7_debt := (goodIn_ca (goodIn_c1 g2_X7_debt_c g2_X7_debt_h) glX7)
set_option maxRecDepth 20000 in
theorem gL_law_X7_debt : GoodIn wsL_law (wsV RL 54 RX7 yX7_debt wsX7_debt) := goodIn_app (goodIn_r _ [624, 625, 626, 5] (by decide +kernel) (by decide +kernel)) g2_X7_debt
set_option maxRecDepth 20000 in
theorem g2_wsX6_term_r1 : GoodIn wsL_law wsX6_term_r1 := goodIn_r _ [467, 38, 637, 638, 639, 2, 640, 36, 37, 473, 28, 474, 475, 471, 72, 641, 642, 643, 644, 620, 621, 622, 623, 468] (by decide +kernel) (by decide +kernel)
set_option maxRecDepth 20000 in
theorem g2_wsX6_term_r2 : GoodIn wsL_law wsX6_term_r2 := goodIn_r _ [469, 470, 71, 73, 472, 476, 329, 80, 330, 331, 332, 333, 334, 335, 336, 34, 337, 252, 69, 253, 338, 339, 340, 341] (by decide +kernel) (by decide +kernel)
set_option maxRecDepth 20000 in
theorem g2_wsX6_term_r3 : GoodIn wsL_law wsX6_term_r3 := goodIn_r _ [477, 478, 479, 480, 481, 482, 483] (by decide +kernel) (by decide +kernel)
set_option maxRecDepth 20000 in
theorem g2_X6_term_c : GoodIn wsL_law [Cond.code yX6_term cX6_term 2 (some .int)] := goodIn_r _ [636] (by decide +kernel) (by decide +kernel)
theorem g2_X6_term : GoodIn wsL_law wsX6_term := (goodIn_ca (goodIn_ca (goodIn_ca (goodIn_c1 g2_X6_term_c g2_wsX6_term_r1) (goodIn_app g2_wsX6_term_r2 g2_wsX6_term_r3)) glX6) glX2)
set_option maxRecDepth 20000 in
theorem gL_law_X6_term : GoodIn wsL_law (wsV RL 55 RX6 yX6_term wsX6_term) := goodIn_app (goodIn_r _ [633, 634, 635, 2] (by decide +kernel) (by decide +kernel)) g2_X6_term
set_option maxRecDepth 20000 in
theorem g2_X7_term_c : GoodIn wsL_law [Cond.code yX7_term cX7_term 3 (some .int)] := goodIn_r _ [648] (by decide +kernel) (by decide +kernel)
set_option maxRecDepth 20000 in
theorem g2_X7_term_h : GoodIn wsL_law ([.fieldLink RX7 267 "CrownTableModel" "term" "I", .fieldLink RX7 44 "CrownTableModel" "farm" "[I", .fieldLink RX7 47 "CrownTableModel" "sheriff" "[I", .fieldLink RX7 277 "CrownTableModel" "debts" "I", .methodLink RX7 285 yX7_owes, .instanceMethod yX7_owes, .selects RX7 yX7_owes yX7_owes, .initialized RX7, .code yX7_owes cX7_owes 6 (some .int), .fieldLink RX7 50 "CrownTableModel" "debtor" "[I", .fieldLink RX7 53 "CrownTableModel" "kind" "[I", .fieldLink RX7 56 "CrownTableModel" "whole" "[I", .fieldLink RX7 59 "CrownTableModel" "left" "[I", .fieldLink RX7 62 "CrownTableModel" "made" "[I", .fieldLink RX7 65 "CrownTableModel" "pledge" "[I", .fieldLink RX7 68 "CrownTableModel" "pardoned" "[I"] : List Cond) := goodIn_r _ [488, 97, 98, 578, 629, 630, 631, 5, 632, 99, 100, 101, 102, 103, 104, 105] (by decide +kernel) (by decide +kernel)
theorem g2_X7_term : GoodIn wsL_law wsX7_term := (goodIn_ca (goodIn_c1 g2_X7_term_c g2_X7_term_h) glX7)
set_option maxRecDepth 20000 in
theorem gL_law_X7_term : GoodIn wsL_law (wsV RL 58 RX7 yX7_term wsX7_term) := goodIn_app (goodIn_r _ [645, 646, 647, 5] (by decide +kernel) (by decide +kernel)) g2_X7_term
set_option maxRecDepth 20000 in
theorem g2_wsX6_come_r1 : GoodIn wsL_law wsX6_come_r1 := goodIn_r _ [619, 35, 467, 39, 40, 653, 31, 537, 538, 2, 539, 654, 655, 656, 657, 38, 522, 523, 524, 525, 514, 515, 516, 517] (by decide +kernel) (by decide +kernel)
set_option maxRecDepth 20000 in
theorem g2_wsX6_come_r2 : GoodIn wsL_law wsX6_come_r2 := goodIn_r _ [481, 28, 482, 483, 471, 71, 498, 499, 500, 73, 480, 473, 474, 475, 72, 658, 659, 660, 661, 494, 495, 496, 497, 29] (by decide +kernel) (by decide +kernel)
set_option maxRecDepth 20000 in
theorem g2_wsX6_come_r3 : GoodIn wsL_law wsX6_come_r3 := goodIn_r _ [518, 519, 520, 521, 526, 527, 528, 529, 23, 530, 22, 531, 532, 62, 533, 534, 535, 536, 33, 662, 663, 664, 665, 666] (by decide +kernel) (by decide +kernel)
set_option maxRecDepth 20000 in
theorem g2_wsX6_come_r4 : GoodIn wsL_law wsX6_come_r4 := goodIn_r _ [667, 69, 668, 451, 452, 453, 454, 158, 25, 540, 541, 542, 543, 544, 545, 546, 547, 548, 327, 549, 550, 347, 348, 551] (by decide +kernel) (by decide +kernel)
set_option maxRecDepth 20000 in
theorem g2_wsX6_come_r5 : GoodIn wsL_law wsX6_come_r5 := goodIn_r _ [552, 553, 554, 555, 556, 557, 558, 559, 560, 561, 63, 562, 563, 564, 565, 566, 567, 568, 669, 670, 671, 345, 672, 673] (by decide +kernel) (by decide +kernel)
set_option maxRecDepth 20000 in
theorem g2_wsX6_come_r6 : GoodIn wsL_law wsX6_come_r6 := goodIn_r _ [674, 346, 675, 676, 677, 678, 468, 469, 470, 472, 476, 329, 80, 330, 331, 332, 333, 334, 335, 336, 34, 337, 252, 253] (by decide +kernel) (by decide +kernel)
set_option maxRecDepth 20000 in
theorem g2_wsX6_come_r7 : GoodIn wsL_law wsX6_come_r7 := goodIn_r _ [338, 339, 340, 341, 477, 478, 479, 679, 680, 681, 682, 683, 684, 685, 686, 687, 688, 689, 690, 691] (by decide +kernel) (by decide +kernel)
set_option maxRecDepth 20000 in
theorem g2_X6_come_c : GoodIn wsL_law [Cond.code yX6_come cX6_come 6 (some .int)] := goodIn_r _ [652] (by decide +kernel) (by decide +kernel)
theorem g2_X6_come : GoodIn wsL_law wsX6_come := (goodIn_ca (goodIn_ca (goodIn_ca (goodIn_ca (goodIn_ca (goodIn_c1 g2_X6_come_c g2_wsX6_come_r1) (goodIn_app g2_wsX6_come_r2 (goodIn_app g2_wsX6_come_r3 (goodIn_app g2_wsX6_come_r4 (goodIn_app g2_wsX6_come_r5 (goodIn_app g2_wsX6_come_r6 g2_wsX6_come_r7)))))) glX6) glX2) glX5) glX4)
set_option maxRecDepth 20000 in
theorem gL_law_X6_come : GoodIn wsL_law (wsV RL 59 RX6 yX6_come wsX6_come) := goodIn_app (goodIn_r _ [649, 650, 651, 2] (by decide +kernel) (by decide +kernel)) g2_X6_come
set_option maxRecDepth 20000 in
theorem g2_wsX7_come_r1 : GoodIn wsL_law wsX7_come_r1 := goodIn_r _ [628, 108, 488, 696, 697, 698, 106, 578, 120, 99, 102, 609, 610, 5, 611, 151, 152, 153, 699, 700, 701, 702, 505, 506] (by decide +kernel) (by decide +kernel)
set_option maxRecDepth 20000 in
theorem g2_wsX7_come_r2 : GoodIn wsL_law wsX7_come_r2 := goodIn_r _ [507, 508, 489, 96, 95, 703, 704, 705, 706, 88, 89, 707, 110, 111, 112, 113, 114, 115, 116, 117, 118, 119, 708, 105] (by decide +kernel) (by decide +kernel)
set_option maxRecDepth 20000 in
theorem g2_wsX7_come_r3 : GoodIn wsL_law wsX7_come_r3 := goodIn_r _ [104, 107, 579, 580, 581, 582, 87, 583, 584, 585, 586, 90, 91, 587, 92, 109, 93, 588, 589, 590, 591, 103, 100, 592] (by decide +kernel) (by decide +kernel)
set_option maxRecDepth 20000 in
theorem g2_wsX7_come_r4 : GoodIn wsL_law wsX7_come_r4 := goodIn_r _ [593, 594, 595, 596, 597, 598] (by decide +kernel) (by decide +kernel)
set_option maxRecDepth 20000 in
theorem g2_X7_come_c : GoodIn wsL_law [Cond.code yX7_come cX7_come 12 (some .int)] := goodIn_r _ [695] (by decide +kernel) (by decide +kernel)
theorem g2_X7_come : GoodIn wsL_law wsX7_come := (goodIn_ca (goodIn_ca (goodIn_c1 g2_X7_come_c g2_wsX7_come_r1) (goodIn_app g2_wsX7_come_r2 (goodIn_app g2_wsX7_come_r3 g2_wsX7_come_r4))) glX7)
set_option maxRecDepth 20000 in
theorem gL_law_X7_come : GoodIn wsL_law (wsV RL 62 RX7 yX7_come wsX7_come) := goodIn_app (goodIn_r _ [692, 693, 694, 5] (by decide +kernel) (by decide +kernel)) g2_X7_come
set_option maxRecDepth 20000 in
theorem g2_X6_free_c : GoodIn wsL_law [Cond.code yX6_free cX6_free 3 (some .int)] := goodIn_r _ [712] (by decide +kernel) (by decide +kernel)
set_option maxRecDepth 20000 in
theorem g2_X6_free_h : GoodIn wsL_law ([.fieldLink RX6 51 "CrownTable" "held" "[Z", .methodLink RX6 166 yX6_isPerson, .static yX6_isPerson, .initialized RX6, .code yX6_isPerson cX6_isPerson 1 (some .boolean)] : List Cond) := goodIn_r _ [33, 537, 538, 2, 539] (by decide +kernel) (by decide +kernel)
theorem g2_X6_free : GoodIn wsL_law wsX6_free := (goodIn_ca (goodIn_c1 g2_X6_free_c g2_X6_free_h) glX6)
set_option maxRecDepth 20000 in
theorem gL_law_X6_free : GoodIn wsL_law (wsV RL 63 RX6 yX6_free wsX6_free) := goodIn_app (goodIn_r _ [709, 710, 711, 2] (by decide +kernel) (by decide +kernel)) g2_X6_free
set_option maxRecDepth 20000 in
theorem g2_X7_free_c : GoodIn wsL_law [Cond.code yX7_free cX7_free 3 (some .int)] := goodIn_r _ [716] (by decide +kernel) (by decide +kernel)
set_option maxRecDepth 20000 in
theorem g2_X7_free_h : GoodIn wsL_law ([.fieldLink RX7 75 "CrownTableModel" "held" "[Z", .methodLink RX7 281 yX7_isPerson, .static yX7_isPerson, .initialized RX7, .code yX7_isPerson cX7_isPerson 1 (some .boolean), .methodLink RX7 132 yX7_in, .static yX7_in, .code yX7_in cX7_in 3 (some .boolean)] : List Cond) := goodIn_r _ [107, 609, 610, 5, 611, 151, 152, 153] (by decide +kernel) (by decide +kernel)
theorem g2_X7_free : GoodIn wsL_law wsX7_free := (goodIn_ca (goodIn_c1 g2_X7_free_c g2_X7_free_h) glX7)
set_option maxRecDepth 20000 in
theorem gL_law_X7_free : GoodIn wsL_law (wsV RL 66 RX7 yX7_free wsX7_free) := goodIn_app (goodIn_r _ [713, 714, 715, 5] (by decide +kernel) (by decide +kernel)) g2_X7_free
set_option maxRecDepth 20000 in
theorem g2_wsX6_heir_r1 : GoodIn wsL_law wsX6_heir_r1 := goodIn_r _ [38, 31, 537, 538, 2, 539, 522, 523, 524, 525, 514, 515, 516, 517, 481, 28, 482, 483, 471, 71, 498, 499, 500, 73] (by decide +kernel) (by decide +kernel)
set_option maxRecDepth 20000 in
theorem g2_wsX6_heir_r2 : GoodIn wsL_law wsX6_heir_r2 := goodIn_r _ [480, 688, 689, 690, 691, 477, 478, 479] (by decide +kernel) (by decide +kernel)
set_option maxRecDepth 20000 in
theorem g2_X6_heir_c : GoodIn wsL_law [Cond.code yX6_heir cX6_heir 5 (some .int)] := goodIn_r _ [720] (by decide +kernel) (by decide +kernel)
theorem g2_X6_heir : GoodIn wsL_law wsX6_heir := (goodIn_ca (goodIn_ca (goodIn_ca (goodIn_c1 g2_X6_heir_c g2_wsX6_heir_r1) g2_wsX6_heir_r2) glX6) glX2)
set_option maxRecDepth 20000 in
theorem gL_law_X6_heir : GoodIn wsL_law (wsV RL 67 RX6 yX6_heir wsX6_heir) := goodIn_app (goodIn_r _ [717, 718, 719, 2] (by decide +kernel) (by decide +kernel)) g2_X6_heir
set_option maxRecDepth 20000 in
theorem g2_X7_heir_c : GoodIn wsL_law [Cond.code yX7_heir cX7_heir 5 (some .int)] := goodIn_r _ [724] (by decide +kernel) (by decide +kernel)
set_option maxRecDepth 20000 in
theorem g2_X7_heir_h : GoodIn wsL_law ([.fieldLink RX7 277 "CrownTableModel" "debts" "I", .fieldLink RX7 50 "CrownTableModel" "debtor" "[I", .fieldLink RX7 59 "CrownTableModel" "left" "[I", .fieldLink RX7 65 "CrownTableModel" "pledge" "[I", .fieldLink RX7 71 "CrownTableModel" "credit" "[J", .methodLink RX7 281 yX7_isPerson, .static yX7_isPerson, .initialized RX7, .code yX7_isPerson cX7_isPerson 1 (some .boolean), .methodLink RX7 132 yX7_in, .static yX7_in, .code yX7_in cX7_in 3 (some .boolean)] : List Cond) := goodIn_r _ [578, 99, 102, 104, 106, 609, 610, 5, 611, 151, 152, 153] (by decide +kernel) (by decide +kernel)
theorem g2_X7_heir : GoodIn wsL_law wsX7_heir := (goodIn_ca (goodIn_c1 g2_X7_heir_c g2_X7_heir_h) glX7)
set_option maxRecDepth 20000 in
theorem gL_law_X7_heir : GoodIn wsL_law (wsV RL 70 RX7 yX7_heir wsX7_heir) := goodIn_app (goodIn_r _ [721, 722, 723, 5] (by decide +kernel) (by decide +kernel)) g2_X7_heir
