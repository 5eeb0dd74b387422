set_option maxRecDepth 20000 in
theorem g2_wsX6_debt_r1 : GoodIn wsL_law wsX6_debt_r1 := goodIn_r _ [38, 537, 538, 2, 539, 616, 617, 618, 619, 473, 28, 474, 475, 471, 72, 620, 621, 622, 623, 467, 468, 469, 470, 71] (by decide +kernel) (by decide +kernel)
set_option maxRecDepth 20000 in
theorem g2_wsX6_debt_r2 : GoodIn wsL_law wsX6_debt_r2 := goodIn_r _ [73, 472, 476, 329, 80, 330, 331, 332, 333, 334, 335, 336, 34, 337, 252, 69, 253, 338, 339, 340, 341, 477, 478, 479] (by decide +kernel) (by decide +kernel)
set_option maxRecDepth 20000 in
theorem g2_wsX6_debt_r3 : GoodIn wsL_law wsX6_debt_r3 := goodIn_r _ [480, 481, 482, 483] (by decide +kernel) (by decide +kernel)
set_option maxRecDepth 20000 in
theorem g2_X6_debt_c : GoodIn wsL_law [Cond.code yX6_debt cX6_debt 6 (some .int)] := goodIn_r _ [615] (by decide +kernel) (by decide +kernel)
theorem g2_X6_debt : GoodIn wsL_law wsX6_debt := (goodIn_ca (goodIn_ca (goodIn_ca (goodIn_c1 g2_X6_debt_c g2_wsX6_debt_r1) (goodIn_app g2_wsX6_debt_r2 g2_wsX6_debt_r3)) glX6) glX2)
set_option maxRecDepth 20000 in
theorem gL_law_X6_debt : GoodIn wsL_law (wsV RL 50 RX6 yX6_debt wsX6_debt) := goodIn_app (goodIn_r _ [612, 613, 614, 2] (by decide +kernel) (by decide +kernel)) g2_X6_debt
set_option maxRecDepth 20000 in
theorem g2_X7_debt_c : GoodIn wsL_law [Cond.code yX7_debt cX7_debt 5 (some .int)] := goodIn_r _ [627] (by decide +kernel) (by decide +kernel)
set_option maxRecDepth 20000 in
theorem g2_X7_debt_h : GoodIn wsL_law ([.constant RX7 284 (1000000), .fieldLink RX7 277 "CrownTableModel" "debts" "I", .methodLink RX7 281 yX7_isPerson, .static yX7_isPerson, .initialized RX7, .code yX7_isPerson cX7_isPerson 1 (some .boolean), .methodLink RX7 132 yX7_in, .static yX7_in, .code yX7_in cX7_in 3 (some .boolean), .methodLink RX7 285 yX7_owes, .instanceMethod yX7_owes, .selects RX7 yX7_owes yX7_owes, .code yX7_owes cX7_owes 6 (some .int), .fieldLink RX7 50 "CrownTableModel" "debtor" "[I", .fieldLink RX7 53 "CrownTableModel" "kind" "[I", .fieldLink RX7 56 "CrownTableModel" "whole" "[I", .fieldLink RX7 59 "CrownTableModel" "left" "[I", .fieldLink RX7 62 "CrownTableModel" "made" "[I", .fieldLink RX7 267 "CrownTableModel" "term" "I", .fieldLink RX7 65 "CrownTableModel" "pledge" "[I", .fieldLink RX7 68 "CrownTableModel" "pardoned" "[I"] : List Cond) := goodIn_r _ [628, 578, 609, 610, 5, 611, 151, 152, 153, 629, 630, 631, 632, 99, 100, 101, 102, 103, 488, 104, 105] (by decide +kernel) (by decide +kernel)
theorem g2_X7_debt : GoodIn wsL_law wsX7_debt := (goodIn_ca (goodIn_c1 g2_X7_debt_c g2_X7_debt_h) glX7)
set_option maxRecDepth 20000 in
theorem gL_law_X7_debt : GoodIn wsL_law (wsV RL 54 RX7 yX7_debt wsX7_debt) := goodIn_app (goodIn_r _ [624, 625, 626, 5] (by decide +kernel) (by decide +kernel)) g2_X7_debt
set_option maxRecDepth 20000 in
theorem g2_wsX6_term_r1 : GoodIn wsL_law wsX6_term_r1 := goodIn_r _ [467, 38, 637, 638, 639, 2, 640, 36, 37, 473, 28, 474, 475, 471, 72, 641, 642, 643, 644, 620, 621, 622, 623, 468] (by decide +kernel) (by decide +kernel)
set_option maxRecDepth 20000 in
theorem g2_wsX6_term_r2 : GoodIn wsL_law wsX6_term_r2 := goodIn_r _ [469, 470, 71, 73, 472, 476, 329, 80, 330, 331, 332, 333, 334, 335, 336, 34, 337, 252, 69, 253, 338, 339, 340, 341] (by decide +kernel) (by decide +kernel)
set_option maxRecDepth 20000 in
theorem g2_wsX6_term_r3 : GoodIn wsL_law wsX6_term_r3 := goodIn_r _ [477, 478, 479, 480, 481, 482, 483] (by decide +kernel) (by decide +kernel)
set_option maxRecDepth 20000 in
theorem g2_X6_term_c : GoodIn wsL_law [Cond.code yX6_term cX6_term 2 (some .int)] := goodIn_r _ [636] (by decide +kernel) (by decide +kernel)
theorem g2_X6_term : GoodIn wsL_law wsX6_term := (goodIn_ca (goodIn_ca (goodIn_ca (goodIn_c1 g2_X6_term_c g2_wsX6_term_r1) (goodIn_app g2_wsX6_term_r2 g2_wsX6_term_r3)) glX6) glX2)
set_option maxRecDepth 20000 in
theorem gL_law_X6_term : GoodIn wsL_law (wsV RL 55 RX6 yX6_term wsX6_term) := goodIn_app (goodIn_r _ [633, 634, 635, 2] (by decide +kernel) (by decide +kernel)) g2_X6_term
set_option maxRecDepth 20000 in
theorem g2_X7_term_c : GoodIn wsL_law [Cond.code yX7_term cX7_term 3 (some .int)] := goodIn_r _ [648] (by decide +kernel) (by decide +kernel)
set_option maxRecDepth 20000 in
theorem g2_X7_term_h : GoodIn wsL_law ([.fieldLink RX7 267 "CrownTableModel" "term" "I", .fieldLink RX7 44 "CrownTableModel" "farm" "[I", .fieldLink RX7 47 "CrownTableModel" "sheriff" "[I", .fieldLink RX7 277 "CrownTableModel" "debts" "I", .methodLink RX7 285 yX7_owes, .instanceMethod yX7_owes, .selects RX7 yX7_owes yX7_owes, .initialized RX7, .code yX7_owes cX7_owes 6 (some .int), .fieldLink RX7 50 "CrownTableModel" "debtor" "[I", .fieldLink RX7 53 "CrownTableModel" "kind" "[I", .fieldLink RX7 56 "CrownTableModel" "whole" "[I", .fieldLink RX7 59 "CrownTableModel" "left" "[I", .fieldLink RX7 62 "CrownTableModel" "made" "[I", .fieldLink RX7 65 "CrownTableModel" "pledge" "[I", .fieldLink RX7 68 "CrownTableModel" "pardoned" "[I"] : List Cond) := goodIn_r _ [488, 97, 98, 578, 629, 630, 631, 5, 632, 99, 100, 101, 102, 103, 104, 105] (by decide +kernel) (by decide +kernel)
theorem g2_X7_term : GoodIn wsL_law wsX7_term := (goodIn_ca (goodIn_c1 g2_X7_term_c g2_X7_term_h) glX7)
set_option maxRecDepth 20000 in
theorem gL_law_X7_term : GoodIn wsL_law (wsV RL 58 RX7 yX7_term wsX7_term) := goodIn_app (goodIn_r _ [645, 646, 647, 5] (by decide +kernel) (by decide +kernel)) g2_X7_term
set_option maxRecDepth 20000 in
theorem g2_wsX6_come_r1 : GoodIn wsL_law wsX6_come_r1 := goodIn_r _ [619, 35, 467, 39, 40, 653, 31, 537, 538, 2, 539, 654, 655, 656, 657, 38, 522, 523, 524, 525, 514, 515, 516, 517] (by decide +kernel) (by decide +kernel)
set_option maxRecDepth 20000 in
theorem g2_wsX6_come_r2 : GoodIn wsL_law wsX6_come_r2 := goodIn_r _ [481, 28, 482, 483, 471, 71, 498, 499, 500, 73, 480, 473, 474, 475, 72, 658, 659, 660, 661, 494, 495, 496, 497, 29] (by decide +kernel) (by decide +kernel)
set_option maxRecDepth 20000 in
theorem g2_wsX6_come_r3 : GoodIn wsL_law wsX6_come_r3 := goodIn_r _ [518, 519, 520, 521, 526, 527, 528, 529, 23, 530, 22, 531, 532, 62, 533, 534, 535, 536, 33, 662, 663, 664, 665, 666] (by decide +kernel) (by decide +kernel)
set_option maxRecDepth 20000 in
theorem g2_wsX6_come_r4 : GoodIn wsL_law wsX6_come_r4 := goodIn_r _ [667, 69, 668, 451, 452, 453, 454, 158, 25, 540, 541, 542, 543, 544, 545, 546, 547, 548, 327, 549, 550, 347, 348, 551] (by decide +kernel) (by decide +kernel)
set_option maxRecDepth 20000 in
theorem g2_wsX6_come_r5 : GoodIn wsL_law wsX6_come_r5 := goodIn_r _ [552, 553, 554, 555, 556, 557, 558, 559, 560, 561, 63, 562, 563, 564, 565, 566, 567, 568, 669, 670, 671, 345, 672, 673] (by decide +kernel) (by decide +kernel)
set_option maxRecDepth 20000 in
theorem g2_wsX6_come_r6 : GoodIn wsL_law wsX6_come_r6 := goodIn_r _ [674, 346, 675, 676, 677, 678, 468, 469, 470, 472, 476, 329, 80, 330, 331, 332, 333, 334, 335, 336, 34, 337, 252, 253] (by decide +kernel) (by decide +kernel)
set_option maxRecDepth 20000 in
theorem g2_wsX6_come_r7 : GoodIn wsL_law wsX6_come_r7 := goodIn_r _ [338, 339, 340, 341, 477, 478, 479, 679, 680, 681, 682, 683, 684, 685, 686, 687, 688, 689, 690, 691] (by decide +kernel) (by decide +kernel)
set_option maxRecDepth 20000 in
theorem g2_X6_come_c : GoodIn wsL_law [Cond.code yX6_come cX6_come 6 (some .int)] := goodIn_r _ [652] (by decide +kernel) (by decide +kernel)
theorem g2_X6_come : GoodIn wsL_law wsX6_come := (goodIn_ca (goodIn_ca (goodIn_ca (goodIn_ca (goodIn_ca (goodIn_c1 g2_X6_come_c g2_wsX6_come_r1) (goodIn_app g2_wsX6_come_r2 (goodIn_app g2_wsX6_come_r3 (goodIn_app g2_wsX6_come_r4 (goodIn_app g2_wsX6_come_r5 (goodIn_app g2_wsX6_come_r6 g2_wsX6_come_r7)))))) glX6) glX2) glX5) glX4)
set_option maxRecDepth 20000 in
theorem gL_law_X6_come : GoodIn wsL_law (wsV RL 59 RX6 yX6_come wsX6_come) := goodIn_app (goodIn_r _ [649, 650, 651, 2] (by decide +kernel) (by decide +kernel)) g2_X6_come
set_option maxRecDepth 20000 in
theorem g2_wsX7_come_r1 : GoodIn wsL_law wsX7_come_r1 := goodIn_r _ [628, 108, 488, 696, 697, 698, 106, 578, 120, 99, 102, 609, 610, 5, 611, 151, 152, 153, 699, 700, 701, 702, 505, 506] (by decide +kernel) (by decide +kernel)
set_option maxRecDepth 20000 in
theorem g2_wsX7_come_r2 : GoodIn wsL_law wsX7_come_r2 := goodIn_r _ [507, 508, 489, 96, 95, 703, 704, 705, 706, 88, 89, 707, 110, 111, 112, 113, 114, 115, 116, 117, 118, 119, 708, 105] (by decide +kernel) (by decide +kernel)
set_option maxRecDepth 20000 in
theorem g2_wsX7_come_r3 : GoodIn wsL_law wsX7_come_r3 := goodIn_r _ [104, 107, 579, 580, 581, 582, 87, 583, 584, 585, 586, 90, 91, 587, 92, 109, 93, 588, 589, 590, 591, 103, 100, 592] (by decide +kernel) (by decide +kernel)
set_option maxRecDepth 20000 in
theorem g2_wsX7_come_r4 : GoodIn wsL_law wsX7_come_r4 := goodIn_r _ [593, 594, 595, 596, 597, 598] (by decide +kernel) (by decide +kernel)
set_option maxRecDepth 20000 in
theorem g2_X7_come_c : GoodIn wsL_law [Cond.code yX7_come cX7_come 12 (some .int)] := goodIn_r _ [695] (by decide +kernel) (by decide +kernel)
theorem g2_X7_come : GoodIn wsL_law wsX7_come := (goodIn_ca (goodIn_ca (goodIn_c1 g2_X7_come_c g2_wsX7_come_r1) (goodIn_app g2_wsX7_come_r2 (goodIn_app g2_wsX7_come_r3 g2_wsX7_come_r4))) glX7)
set_option maxRecDepth 20000 in
theorem gL_law_X7_come : GoodIn wsL_law (wsV RL 62 RX7 yX7_come wsX7_come) := goodIn_app (goodIn_r _ [692, 693, 694, 5] (by decide +kernel) (by decide +kernel)) g2_X7_come
set_option maxRecDepth 20000 in
theorem g2_X6_free_c : GoodIn wsL_law [Cond.code yX6_free cX6_free 3 (some .int)] := goodIn_r _ [712] (by decide +kernel) (by decide +kernel)
set_option maxRecDepth 20000 in
theorem g2_X6_free_h : GoodIn wsL_law ([.fieldLink RX6 51 "CrownTable" "held" "[Z", .methodLink RX6 166 yX6_isPerson, .static yX6_isPerson, .initialized RX6, .code yX6_isPerson cX6_isPerson 1 (some .boolean)] : List Cond) := goodIn_r _ [33, 537, 538, 2, 539] (by decide +kernel) (by decide +kernel)
theorem g2_X6_free : GoodIn wsL_law wsX6_free := (goodIn_ca (goodIn_c1 g2_X6_free_c g2_X6_free_h) glX6)
set_option maxRecDepth 20000 in
theorem gL_law_X6_free : GoodIn wsL_law (wsV RL 63 RX6 yX6_free wsX6_free) := goodIn_app (goodIn_r _ [709, 710, 711, 2] (by decide +kernel) (by decide +kernel)) g2_X6_free
set_option maxRecDepth 20000 in
theorem g2_X7_free_c : GoodIn wsL_law [Cond.code yX7_free cX7_free 3 (some .int)] := goodIn_r _ [716] (by decide +kernel) (by decide +kernel)
set_option maxRecDepth 20000 in
theorem g2_X7_free_h : GoodIn wsL_law ([.fieldLink RX7 75 "CrownTableModel" "held" "[Z", .methodLink RX7 281 yX7_isPerson, .static yX7_isPerson, .initialized RX7, .code yX7_isPerson cX7_isPerson 1 (some .boolean), .methodLink RX7 132 yX7_in, .static yX7_in, .code yX7_in cX7_in 3 (some .boolean)] : List Cond) := goodIn_r _ [107, 609, 610, 5, 611, 151, 152, 153] (by decide +kernel) (by decide +kernel)
theorem g2_X7_free : GoodIn wsL_law wsX7_free := (goodIn_ca (goodIn_c1 g2_X7_free_c g2_X7_free_h) glX7)
set_option maxRecDepth 20000 in
theorem gL_law_X7_free : GoodIn wsL_law (wsV RL 66 RX7 yX7_free wsX7_free) := goodIn_app (goodIn_r _ [713, 714, 715, 5] (by decide +kernel) (by decide +kernel)) g2_X7_free
set_option maxRecDepth 20000 in
theorem g2_wsX6_heir_r1 : GoodIn wsL_law wsX6_heir_r1 := goodIn_r _ [38, 31, 537, 538, 2, 539, 522, 523, 524, 525, 514, 515, 516, 517, 481, 28, 482, 483, 471, 71, 498, 499, 500, 73] (by decide +kernel) (by decide +kernel)
set_option maxRecDepth 20000 in
theorem g2_wsX6_heir_r2 : GoodIn wsL_law wsX6_heir_r2 := goodIn_r _ [480, 688, 689, 690, 691, 477, 478, 479] (by decide +kernel) (by decide +kernel)
set_option maxRecDepth 20000 in
theorem g2_X6_heir_c : GoodIn wsL_law [Cond.code yX6_heir cX6_heir 5 (some .int)] := goodIn_r _ [720] (by decide +kernel) (by decide +kernel)
theorem g2_X6_heir : GoodIn wsL_law wsX6_heir := (goodIn_ca (goodIn_ca (goodIn_ca (goodIn_c1 g2_X6_heir_c g2_wsX6_heir_r1) g2_wsX6_heir_r2) glX6) glX2)
set_option maxRecDepth 20000 in
theorem gL_law_X6_heir : GoodIn wsL_law (wsV RL 67 RX6 yX6_heir wsX6_heir) := goodIn_app (goodIn_r _ [717, 718, 719, 2] (by decide +kernel) (by decide +kernel)) g2_X6_heir
set_option maxRecDepth 20000 in
theorem g2_X7_heir_c : GoodIn wsL_law [Cond.code yX7_heir cX7_heir 5 (some .int)] := goodIn_r _ [724] (by decide +kernel) (by decide +kernel)
set_option maxRecDepth 20000 in
theorem g2_X7_heir_h : GoodIn wsL_law ([.fieldLink RX7 277 "CrownTableModel" "debts" "I", .fieldLink RX7 50 "CrownTableModel" "debtor" "[I", .fieldLink RX7 59 "CrownTableModel" "left" "[I", .fieldLink RX7 65 "CrownTableModel" "pledge" "[I", .fieldLink RX7 71 "CrownTableModel" "credit" "[J", .methodLink RX7 281 yX7_isPerson, .static yX7_isPerson, .initialized RX7, .code yX7_isPerson cX7_isPerson 1 (some .boolean), .methodLink RX7 132 yX7_in, .static yX7_in, .code yX7_in cX7_in 3 (some .boolean)] : List Cond) := goodIn_r _ [578, 99, 102, 104, 106, 609, 610, 5, 611, 151, 152, 153] (by decide +kernel) (by decide +kernel)
theorem g2_X7_heir : GoodIn wsL_law wsX7_heir := (goodIn_ca (goodIn_c1 g2_X7_heir_c g2_X7_heir_h) glX7)
set_option maxRecDepth 20000 in
theorem gL_law_X7_heir : GoodIn wsL_law (wsV RL 70 RX7 yX7_heir wsX7_heir) := goodIn_app (goodIn_r _ [721, 722, 723, 5] (by decide +kernel) (by decide +kernel)) g2_X7_heir
