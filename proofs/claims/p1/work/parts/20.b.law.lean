set_option maxRecDepth 20000 in
theorem g2_X6_statements_c : GoodIn wsL_law [Cond.code yX6_statements cX6_statements 3 (some .int)] := goodIn_r _ [450] (by decide +kernel) (by decide +kernel)
set_option maxRecDepth 20000 in
theorem g2_X6_statements_h : GoodIn wsL_law ([.methodLink RX6 113 yX6_textOf, .instanceMethod yX6_textOf, .selects RX6 yX6_textOf yX6_textOf, .initialized RX6, .code yX6_textOf cX6_textOf 2 (some (.object "CrownTable$Text")), .fieldLink RX6 99 "CrownTable" "textsRead" "I", .fieldLink RX6 34 "CrownTable" "texts" "[LCrownTable$Text;"] : List Cond) := goodIn_r _ [451, 452, 453, 2, 454, 158, 25] (by decide +kernel) (by decide +kernel)
theorem g2_X6_statements : GoodIn wsL_law wsX6_statements := (goodIn_ca (goodIn_ca (goodIn_c1 g2_X6_statements_c g2_X6_statements_h) glX4) glX6)
set_option maxRecDepth 20000 in
theorem gL_law_X6_statements : GoodIn wsL_law (wsV RL 28 RX6 yX6_statements wsX6_statements) := goodIn_app (goodIn_r _ [447, 448, 449, 2] (by decide +kernel) (by decide +kernel)) g2_X6_statements
set_option maxRecDepth 20000 in
theorem g2_X7_statements_c : GoodIn wsL_law [Cond.code yX7_statements cX7_statements 2 (some .int)] := goodIn_r _ [458] (by decide +kernel) (by decide +kernel)
set_option maxRecDepth 20000 in
theorem g2_X7_statements_h : GoodIn wsL_law ([.fieldLink RX7 13 "CrownTableModel" "many" "[I", .methodLink RX7 264 yX7_isText, .instanceMethod yX7_isText, .selects RX7 yX7_isText yX7_isText, .initialized RX7, .code yX7_isText cX7_isText 2 (some .boolean), .fieldLink RX7 220 "CrownTableModel" "texts" "I", .methodLink RX7 132 yX7_in, .static yX7_in, .code yX7_in cX7_in 3 (some .boolean)] : List Cond) := goodIn_r _ [87, 459, 460, 461, 5, 462, 353, 151, 152, 153] (by decide +kernel) (by decide +kernel)
theorem g2_X7_statements : GoodIn wsL_law wsX7_statements := (goodIn_ca (goodIn_c1 g2_X7_statements_c g2_X7_statements_h) glX7)
set_option maxRecDepth 20000 in
theorem gL_law_X7_statements : GoodIn wsL_law (wsV RL 31 RX7 yX7_statements wsX7_statements) := goodIn_app (goodIn_r _ [455, 456, 457, 5] (by decide +kernel) (by decide +kernel)) g2_X7_statements
set_option maxRecDepth 20000 in
theorem g2_wsX6_force_r1 : GoodIn wsL_law wsX6_force_r1 := goodIn_r _ [467, 29, 451, 452, 453, 2, 454, 158, 25, 468, 28, 469, 470, 471, 71, 73, 472, 473, 474, 475, 72, 476, 329, 80] (by decide +kernel) (by decide +kernel)
set_option maxRecDepth 20000 in
theorem g2_wsX6_force_r2 : GoodIn wsL_law wsX6_force_r2 := goodIn_r _ [330, 331, 332, 333, 334, 335, 336, 34, 337, 252, 69, 253, 338, 339, 340, 341, 477, 478, 479, 480, 481, 482, 483] (by decide +kernel) (by decide +kernel)
set_option maxRecDepth 20000 in
theorem g2_X6_force_c : GoodIn wsL_law [Cond.code yX6_force cX6_force 4 (some .int)] := goodIn_r _ [466] (by decide +kernel) (by decide +kernel)
theorem g2_X6_force : GoodIn wsL_law wsX6_force := (goodIn_ca (goodIn_ca (goodIn_ca (goodIn_c1 g2_X6_force_c g2_wsX6_force_r1) g2_wsX6_force_r2) glX6) glX2)
set_option maxRecDepth 20000 in
theorem gL_law_X6_force : GoodIn wsL_law (wsV RL 32 RX6 yX6_force wsX6_force) := goodIn_app (goodIn_r _ [463, 464, 465, 2] (by decide +kernel) (by decide +kernel)) g2_X6_force
set_option maxRecDepth 20000 in
theorem g2_X7_force_c : GoodIn wsL_law [Cond.code yX7_force cX7_force 3 (some .int)] := goodIn_r _ [487] (by decide +kernel) (by decide +kernel)
set_option maxRecDepth 20000 in
theorem g2_X7_force_h : GoodIn wsL_law ([.fieldLink RX7 267 "CrownTableModel" "term" "I", .fieldLink RX7 270 "CrownTableModel" "forces" "I", .fieldLink RX7 38 "CrownTableModel" "forceText" "[I", .fieldLink RX7 41 "CrownTableModel" "forceFrom" "[I", .methodLink RX7 264 yX7_isText, .instanceMethod yX7_isText, .selects RX7 yX7_isText yX7_isText, .initialized RX7, .code yX7_isText cX7_isText 2 (some .boolean), .fieldLink RX7 220 "CrownTableModel" "texts" "I", .methodLink RX7 132 yX7_in, .static yX7_in, .code yX7_in cX7_in 3 (some .boolean)] : List Cond) := goodIn_r _ [488, 489, 95, 96, 459, 460, 461, 5, 462, 353, 151, 152, 153] (by decide +kernel) (by decide +kernel)
theorem g2_X7_force : GoodIn wsL_law wsX7_force := (goodIn_ca (goodIn_c1 g2_X7_force_c g2_X7_force_h) glX7)
set_option maxRecDepth 20000 in
theorem gL_law_X7_force : GoodIn wsL_law (wsV RL 36 RX7 yX7_force wsX7_force) := goodIn_app (goodIn_r _ [484, 485, 486, 5] (by decide +kernel) (by decide +kernel)) g2_X7_force
set_option maxRecDepth 20000 in
theorem g2_X6_inForce_c : GoodIn wsL_law [Cond.code yX6_inForce cX6_inForce 2 (some .int)] := goodIn_r _ [493] (by decide +kernel) (by decide +kernel)
set_option maxRecDepth 20000 in
theorem g2_X6_inForce_h : GoodIn wsL_law ([.methodLink RX6 131 yX6_textInForce, .instanceMethod yX6_textInForce, .selects RX6 yX6_textInForce yX6_textInForce, .initialized RX6, .code yX6_textInForce cX6_textInForce 3 (some .int), .fieldLink RX6 43 "CrownTable" "forces" "LCrownTable$Rows;", .instanceMethod yX2_get, .initialized RX2, .selects RX2 yX2_get yX2_get, .code yX2_get cX2_get 3 (some .int), .fieldLink RX2 24 "CrownTable$Rows" "cells" "[I", .fieldLink RX2 15 "CrownTable$Rows" "width" "I", .methodLink RX2 41 yX2_has, .instanceMethod yX2_has, .selects RX2 yX2_has yX2_has, .code yX2_has cX2_has 3 (some .boolean), .fieldLink RX2 28 "CrownTable$Rows" "size" "I"] : List Cond) := goodIn_r _ [494, 495, 496, 2, 497, 29, 498, 28, 499, 500, 73, 71, 480, 481, 482, 483, 471] (by decide +kernel) (by decide +kernel)
theorem g2_X6_inForce : GoodIn wsL_law wsX6_inForce := (goodIn_ca (goodIn_ca (goodIn_c1 g2_X6_inForce_c g2_X6_inForce_h) glX6) glX2)
set_option maxRecDepth 20000 in
theorem gL_law_X6_inForce : GoodIn wsL_law (wsV RL 37 RX6 yX6_inForce wsX6_inForce) := goodIn_app (goodIn_r _ [490, 491, 492, 2] (by decide +kernel) (by decide +kernel)) g2_X6_inForce
set_option maxRecDepth 20000 in
theorem g2_X7_inForce_c : GoodIn wsL_law [Cond.code yX7_inForce cX7_inForce 2 (some .int)] := goodIn_r _ [504] (by decide +kernel) (by decide +kernel)
set_option maxRecDepth 20000 in
theorem g2_X7_inForce_h : GoodIn wsL_law ([.methodLink RX7 132 yX7_in, .static yX7_in, .initialized RX7, .code yX7_in cX7_in 3 (some .boolean), .methodLink RX7 273 yX7_forceAt, .instanceMethod yX7_forceAt, .selects RX7 yX7_forceAt yX7_forceAt, .code yX7_forceAt cX7_forceAt 3 (some .int), .fieldLink RX7 270 "CrownTableModel" "forces" "I", .fieldLink RX7 41 "CrownTableModel" "forceFrom" "[I", .fieldLink RX7 38 "CrownTableModel" "forceText" "[I"] : List Cond) := goodIn_r _ [151, 152, 5, 153, 505, 506, 507, 508, 489, 96, 95] (by decide +kernel) (by decide +kernel)
theorem g2_X7_inForce : GoodIn wsL_law wsX7_inForce := (goodIn_ca (goodIn_c1 g2_X7_inForce_c g2_X7_inForce_h) glX7)
set_option maxRecDepth 20000 in
theorem gL_law_X7_inForce : GoodIn wsL_law (wsV RL 40 RX7 yX7_inForce wsX7_inForce) := goodIn_app (goodIn_r _ [501, 502, 503, 5] (by decide +kernel) (by decide +kernel)) g2_X7_inForce
set_option maxRecDepth 20000 in
theorem g2_wsX6_would_r1 : GoodIn wsL_law wsX6_would_r1 := goodIn_r _ [513, 38, 23, 451, 452, 453, 2, 454, 158, 25, 514, 515, 516, 517, 481, 28, 482, 483, 471, 71, 498, 499, 500, 73] (by decide +kernel) (by decide +kernel)
set_option maxRecDepth 20000 in
theorem g2_wsX6_would_r2 : GoodIn wsL_law wsX6_would_r2 := goodIn_r _ [480, 518, 519, 520, 521, 522, 523, 524, 525, 526, 527, 528, 529, 467, 530, 22, 531, 532, 62, 533, 534, 535, 536, 33] (by decide +kernel) (by decide +kernel)
set_option maxRecDepth 20000 in
theorem g2_wsX6_would_r3 : GoodIn wsL_law wsX6_would_r3 := goodIn_r _ [537, 538, 539, 540, 541, 542, 543, 544, 545, 546, 547, 548, 327, 549, 550, 347, 348, 551, 552, 553, 554, 555, 556, 557] (by decide +kernel) (by decide +kernel)
set_option maxRecDepth 20000 in
theorem g2_wsX6_would_r4 : GoodIn wsL_law wsX6_would_r4 := goodIn_r _ [558, 559, 560, 561, 63, 562, 563, 564, 565, 566, 567, 568] (by decide +kernel) (by decide +kernel)
set_option maxRecDepth 20000 in
theorem g2_X6_would_c : GoodIn wsL_law [Cond.code yX6_would cX6_would 6 (some .int)] := goodIn_r _ [512] (by decide +kernel) (by decide +kernel)
theorem g2_X6_would : GoodIn wsL_law wsX6_would := (goodIn_ca (goodIn_ca (goodIn_ca (goodIn_ca (goodIn_ca (goodIn_c1 g2_X6_would_c g2_wsX6_would_r1) (goodIn_app g2_wsX6_would_r2 (goodIn_app g2_wsX6_would_r3 g2_wsX6_would_r4))) glX6) glX2) glX5) glX4)
set_option maxRecDepth 20000 in
theorem gL_law_X6_would : GoodIn wsL_law (wsV RL 41 RX6 yX6_would wsX6_would) := goodIn_app (goodIn_r _ [509, 510, 511, 2] (by decide +kernel) (by decide +kernel)) g2_X6_would
set_option maxRecDepth 20000 in
theorem g2_wsX7_would_r1 : GoodIn wsL_law wsX7_would_r1 := goodIn_r _ [102, 573, 459, 460, 461, 5, 462, 353, 151, 152, 153, 574, 575, 576, 577, 578, 579, 580, 581, 582, 87, 583, 584, 585] (by decide +kernel) (by decide +kernel)
set_option maxRecDepth 20000 in
theorem g2_wsX7_would_r2 : GoodIn wsL_law wsX7_would_r2 := goodIn_r _ [586, 90, 91, 587, 92, 109, 93, 588, 589, 590, 591, 99, 488, 103, 100, 107, 104, 592, 593, 594, 595, 596, 597, 598] (by decide +kernel) (by decide +kernel)
set_option maxRecDepth 20000 in
theorem g2_X7_would_c : GoodIn wsL_law [Cond.code yX7_would cX7_would 4 (some .int)] := goodIn_r _ [572] (by decide +kernel) (by decide +kernel)
theorem g2_X7_would : GoodIn wsL_law wsX7_would := (goodIn_ca (goodIn_ca (goodIn_c1 g2_X7_would_c g2_wsX7_would_r1) g2_wsX7_would_r2) glX7)
set_option maxRecDepth 20000 in
theorem gL_law_X7_would : GoodIn wsL_law (wsV RL 45 RX7 yX7_would wsX7_would) := goodIn_app (goodIn_r _ [569, 570, 571, 5] (by decide +kernel) (by decide +kernel)) g2_X7_would
set_option maxRecDepth 20000 in
theorem g2_X6_shire_c : GoodIn wsL_law [Cond.code yX6_shire cX6_shire 4 (some .int)] := goodIn_r _ [602] (by decide +kernel) (by decide +kernel)
set_option maxRecDepth 20000 in
theorem g2_X6_shire_h : GoodIn wsL_law ([.constant RX6 165 (100000), .fieldLink RX6 59 "CrownTable" "farms" "[I", .fieldLink RX6 62 "CrownTable" "sheriffs" "[I", .methodLink RX6 166 yX6_isPerson, .static yX6_isPerson, .initialized RX6, .code yX6_isPerson cX6_isPerson 1 (some .boolean)] : List Cond) := goodIn_r _ [603, 36, 37, 537, 538, 2, 539] (by decide +kernel) (by decide +kernel)
theorem g2_X6_shire : GoodIn wsL_law wsX6_shire := (goodIn_ca (goodIn_c1 g2_X6_shire_c g2_X6_shire_h) glX6)
set_option maxRecDepth 20000 in
theorem gL_law_X6_shire : GoodIn wsL_law (wsV RL 46 RX6 yX6_shire wsX6_shire) := goodIn_app (goodIn_r _ [599, 600, 601, 2] (by decide +kernel) (by decide +kernel)) g2_X6_shire
set_option maxRecDepth 20000 in
theorem g2_X7_shire_c : GoodIn wsL_law [Cond.code yX7_shire cX7_shire 4 (some .int)] := goodIn_r _ [607] (by decide +kernel) (by decide +kernel)
set_option maxRecDepth 20000 in
theorem g2_X7_shire_h : GoodIn wsL_law ([.constant RX7 280 (100000), .fieldLink RX7 44 "CrownTableModel" "farm" "[I", .fieldLink RX7 47 "CrownTableModel" "sheriff" "[I", .methodLink RX7 132 yX7_in, .static yX7_in, .initialized RX7, .code yX7_in cX7_in 3 (some .boolean), .methodLink RX7 281 yX7_isPerson, .static yX7_isPerson, .code yX7_isPerson cX7_isPerson 1 (some .boolean)] : List Cond) := goodIn_r _ [608, 97, 98, 151, 152, 5, 153, 609, 610, 611] (by decide +kernel) (by decide +kernel)
theorem g2_X7_shire : GoodIn wsL_law wsX7_shire := (goodIn_ca (goodIn_c1 g2_X7_shire_c g2_X7_shire_h) glX7)
set_option maxRecDepth 20000 in
theorem gL_law_X7_shire : GoodIn wsL_law (wsV RL 49 RX7 yX7_shire wsX7_shire) := goodIn_app (goodIn_r _ [604, 605, 606, 5] (by decide +kernel) (by decide +kernel)) g2_X7_shire
