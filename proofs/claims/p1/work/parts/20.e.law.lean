set_option maxRecDepth 20000 in
theorem g2_X6_fits_c : GoodIn wsL_law [Cond.code yX6_fits cX6_fits 5 (some .int)] := goodIn_r _ [780] (by decide +kernel) (by decide +kernel)
set_option maxRecDepth 20000 in
theorem g2_X6_fits_h : GoodIn wsL_law ([.fieldLink RX6 71 "CrownTable" "sticks" "LCrownTable$Rows;", .constant RX6 138 (10000000), .instanceMethod yX2_has, .initialized RX2, .selects RX2 yX2_has yX2_has, .code yX2_has cX2_has 3 (some .boolean), .fieldLink RX2 28 "CrownTable$Rows" "size" "I", .fieldLink RX2 15 "CrownTable$Rows" "width" "I", .instanceMethod yX2_get, .selects RX2 yX2_get yX2_get, .code yX2_get cX2_get 3 (some .int), .fieldLink RX2 24 "CrownTable$Rows" "cells" "[I", .methodLink RX2 41 yX2_has, .static yX0_notches, .initialized RX0, .code yX0_notches cX0_notches 2 (some .int), .constant RX0 15 (240000)] : List Cond) := goodIn_r _ [40, 513, 481, 28, 482, 483, 471, 71, 498, 499, 500, 73, 480, 763, 43, 764, 765] (by decide +kernel) (by decide +kernel)
theorem g2_X6_fits : GoodIn wsL_law wsX6_fits := (goodIn_ca (goodIn_ca (goodIn_c1 g2_X6_fits_c g2_X6_fits_h) glX6) glX2)
set_option maxRecDepth 20000 in
theorem gL_law_X6_fits : GoodIn wsL_law (wsV RL 92 RX6 yX6_fits wsX6_fits) := goodIn_app (goodIn_r _ [777, 778, 779, 2] (by decide +kernel) (by decide +kernel)) g2_X6_fits
set_option maxRecDepth 20000 in
theorem g2_X7_fits_c : GoodIn wsL_law [Cond.code yX7_fits cX7_fits 4 (some .int)] := goodIn_r _ [784] (by decide +kernel) (by decide +kernel)
set_option maxRecDepth 20000 in
theorem g2_X7_fits_h : GoodIn wsL_law ([.fieldLink RX7 322 "CrownTableModel" "sticks" "I", .constant RX7 311 (10000000), .fieldLink RX7 112 "CrownTableModel" "stick" "[I", .methodLink RX7 132 yX7_in, .static yX7_in, .initialized RX7, .code yX7_in cX7_in 3 (some .boolean), .methodLink RX7 344 yX7_notch, .static yX7_notch, .code yX7_notch cX7_notch 2 (some .int), .constant RX7 340 (240000), .methodLink RX7 341 yX7_worthOf, .static yX7_worthOf, .code yX7_worthOf cX7_worthOf 1 (some .int)] : List Cond) := goodIn_r _ [697, 573, 119, 151, 152, 5, 153, 770, 771, 772, 773, 774, 775, 776] (by decide +kernel) (by decide +kernel)
theorem g2_X7_fits : GoodIn wsL_law wsX7_fits := (goodIn_ca (goodIn_c1 g2_X7_fits_c g2_X7_fits_h) glX7)
set_option maxRecDepth 20000 in
theorem gL_law_X7_fits : GoodIn wsL_law (wsV RL 95 RX7 yX7_fits wsX7_fits) := goodIn_app (goodIn_r _ [781, 782, 783, 5] (by decide +kernel) (by decide +kernel)) g2_X7_fits
set_option maxRecDepth 20000 in
theorem g2_X6_lay_c : GoodIn wsL_law [Cond.code yX6_lay cX6_lay 2 (some .int)] := goodIn_r _ [788] (by decide +kernel) (by decide +kernel)
set_option maxRecDepth 20000 in
theorem g2_X6_lay_h : GoodIn wsL_law ([.fieldLink RX6 77 "CrownTable" "table" "LCrownTable$Cloth;", .methodLink RX6 169 yX6_isSum, .static yX6_isSum, .initialized RX6, .code yX6_isSum cX6_isSum 1 (some .boolean), .constant RX6 183 (1000000), .instanceMethod yX0_layDown, .initialized RX0, .selects RX0 yX0_layDown yX0_layDown, .code yX0_layDown cX0_layDown 4 (some .int), .fieldLink RX0 9 "CrownTable$Cloth" "counters" "[I", .fieldLink RX0 23 "CrownTable$Cloth" "OF_THE_NEXT" "[I", .methodLink RX0 19 yX0_notches, .static yX0_notches, .code yX0_notches cX0_notches 2 (some .int), .constant RX0 15 (240000)] : List Cond) := goodIn_r _ [44, 616, 617, 2, 618, 619, 789, 43, 790, 791, 77, 792, 793, 763, 764, 765] (by decide +kernel) (by decide +kernel)
theorem g2_X6_lay : GoodIn wsL_law wsX6_lay := (goodIn_ca (goodIn_ca (goodIn_c1 g2_X6_lay_c g2_X6_lay_h) glX6) glX0)
set_option maxRecDepth 20000 in
theorem gL_law_X6_lay : GoodIn wsL_law (wsV RL 96 RX6 yX6_lay wsX6_lay) := goodIn_app (goodIn_r _ [785, 786, 787, 2] (by decide +kernel) (by decide +kernel)) g2_X6_lay
set_option maxRecDepth 20000 in
theorem g2_X7_lay_c : GoodIn wsL_law [Cond.code yX7_lay cX7_lay 4 (some .int)] := goodIn_r _ [797] (by decide +kernel) (by decide +kernel)
set_option maxRecDepth 20000 in
theorem g2_X7_lay_h : GoodIn wsL_law ([.constant RX7 284 (1000000), .fieldLink RX7 118 "CrownTableModel" "cloth" "[I", .methodLink RX7 132 yX7_in, .static yX7_in, .initialized RX7, .code yX7_in cX7_in 3 (some .boolean), .methodLink RX7 344 yX7_notch, .static yX7_notch, .code yX7_notch cX7_notch 2 (some .int), .constant RX7 340 (240000), .methodLink RX7 341 yX7_worthOf, .static yX7_worthOf, .code yX7_worthOf cX7_worthOf 1 (some .int), .methodLink RX7 348 yX7_next, .static yX7_next, .code yX7_next cX7_next 1 (some .int)] : List Cond) := goodIn_r _ [628, 121, 151, 152, 5, 153, 770, 771, 772, 773, 774, 775, 776, 798, 799, 800] (by decide +kernel) (by decide +kernel)
theorem g2_X7_lay : GoodIn wsL_law wsX7_lay := (goodIn_ca (goodIn_c1 g2_X7_lay_c g2_X7_lay_h) glX7)
set_option maxRecDepth 20000 in
theorem gL_law_X7_lay : GoodIn wsL_law (wsV RL 99 RX7 yX7_lay wsX7_lay) := goodIn_app (goodIn_r _ [794, 795, 796, 5] (by decide +kernel) (by decide +kernel)) g2_X7_lay
set_option maxRecDepth 20000 in
theorem g2_X6_take_c : GoodIn wsL_law [Cond.code yX6_take cX6_take 2 (some .int)] := goodIn_r _ [804] (by decide +kernel) (by decide +kernel)
set_option maxRecDepth 20000 in
theorem g2_X6_take_h : GoodIn wsL_law ([.fieldLink RX6 77 "CrownTable" "table" "LCrownTable$Cloth;", .methodLink RX6 169 yX6_isSum, .static yX6_isSum, .initialized RX6, .code yX6_isSum cX6_isSum 1 (some .boolean), .constant RX6 183 (1000000), .instanceMethod yX0_lies, .initialized RX0, .selects RX0 yX0_lies yX0_lies, .code yX0_lies cX0_lies 4 (some .long), .fieldLink RX0 9 "CrownTable$Cloth" "counters" "[I", .fieldLink RX0 16 "CrownTable$Cloth" "WORTHS" "[I", .instanceMethod yX0_takeUp, .selects RX0 yX0_takeUp yX0_takeUp, .code yX0_takeUp cX0_takeUp 5 (some .int), .methodLink RX0 19 yX0_notches, .static yX0_notches, .code yX0_notches cX0_notches 2 (some .int), .constant RX0 15 (240000), .methodLink RX0 26 yX0_bringDown, .instanceMethod yX0_bringDown, .selects RX0 yX0_bringDown yX0_bringDown, .code yX0_bringDown cX0_bringDown 4 (some .int), .fieldLink RX0 23 "CrownTable$Cloth" "OF_THE_NEXT" "[I"] : List Cond) := goodIn_r _ [44, 616, 617, 2, 618, 619, 805, 43, 806, 807, 77, 808, 809, 810, 811, 793, 763, 764, 765, 812, 813, 814, 815, 792] (by decide +kernel) (by decide +kernel)
theorem g2_X6_take : GoodIn wsL_law wsX6_take := (goodIn_ca (goodIn_ca (goodIn_c1 g2_X6_take_c g2_X6_take_h) glX6) glX0)
set_option maxRecDepth 20000 in
theorem gL_law_X6_take : GoodIn wsL_law (wsV RL 100 RX6 yX6_take wsX6_take) := goodIn_app (goodIn_r _ [801, 802, 803, 2] (by decide +kernel) (by decide +kernel)) g2_X6_take
set_option maxRecDepth 20000 in
theorem g2_X7_take_c : GoodIn wsL_law [Cond.code yX7_take cX7_take 6 (some .int)] := goodIn_r _ [819] (by decide +kernel) (by decide +kernel)
set_option maxRecDepth 20000 in
theorem g2_X7_take_h : GoodIn wsL_law ([.constant RX7 284 (1000000), .fieldLink RX7 118 "CrownTableModel" "cloth" "[I", .methodLink RX7 132 yX7_in, .static yX7_in, .initialized RX7, .code yX7_in cX7_in 3 (some .boolean), .methodLink RX7 351 yX7_lies, .instanceMethod yX7_lies, .selects RX7 yX7_lies yX7_lies, .code yX7_lies cX7_lies 4 (some .long), .methodLink RX7 341 yX7_worthOf, .static yX7_worthOf, .code yX7_worthOf cX7_worthOf 1 (some .int), .constant RX7 340 (240000), .methodLink RX7 344 yX7_notch, .static yX7_notch, .code yX7_notch cX7_notch 2 (some .int), .methodLink RX7 348 yX7_next, .static yX7_next, .code yX7_next cX7_next 1 (some .int)] : List Cond) := goodIn_r _ [628, 121, 151, 152, 5, 153, 820, 821, 822, 823, 774, 775, 776, 773, 770, 771, 772, 798, 799, 800] (by decide +kernel) (by decide +kernel)
theorem g2_X7_take : GoodIn wsL_law wsX7_take := (goodIn_ca (goodIn_c1 g2_X7_take_c g2_X7_take_h) glX7)
set_option maxRecDepth 20000 in
theorem gL_law_X7_take : GoodIn wsL_law (wsV RL 103 RX7 yX7_take wsX7_take) := goodIn_app (goodIn_r _ [816, 817, 818, 5] (by decide +kernel) (by decide +kernel)) g2_X7_take
set_option maxRecDepth 20000 in
theorem g2_X6_cloth_c : GoodIn wsL_law [Cond.code yX6_cloth cX6_cloth 2 (some .int)] := goodIn_r _ [827] (by decide +kernel) (by decide +kernel)
set_option maxRecDepth 20000 in
theorem g2_X6_cloth_h : GoodIn wsL_law ([.fieldLink RX6 77 "CrownTable" "table" "LCrownTable$Cloth;"] : List Cond) := goodIn_r _ [44] (by decide +kernel) (by decide +kernel)
theorem g2_X6_cloth : GoodIn wsL_law wsX6_cloth := (goodIn_ca (goodIn_ca (goodIn_c1 g2_X6_cloth_c g2_X6_cloth_h) glX6) glX0)
set_option maxRecDepth 20000 in
theorem gL_law_X6_cloth : GoodIn wsL_law (wsV RL 104 RX6 yX6_cloth wsX6_cloth) := goodIn_app (goodIn_r _ [824, 825, 826, 2] (by decide +kernel) (by decide +kernel)) g2_X6_cloth
set_option maxRecDepth 20000 in
theorem g2_X7_cloth_c : GoodIn wsL_law [Cond.code yX7_cloth cX7_cloth 2 (some .int)] := goodIn_r _ [831] (by decide +kernel) (by decide +kernel)
set_option maxRecDepth 20000 in
theorem g2_X7_cloth_h : GoodIn wsL_law ([.fieldLink RX7 118 "CrownTableModel" "cloth" "[I", .methodLink RX7 132 yX7_in, .static yX7_in, .initialized RX7, .code yX7_in cX7_in 3 (some .boolean)] : List Cond) := goodIn_r _ [121, 151, 152, 5, 153] (by decide +kernel) (by decide +kernel)
theorem g2_X7_cloth : GoodIn wsL_law wsX7_cloth := (goodIn_ca (goodIn_c1 g2_X7_cloth_c g2_X7_cloth_h) glX7)
set_option maxRecDepth 20000 in
theorem gL_law_X7_cloth : GoodIn wsL_law (wsV RL 107 RX7 yX7_cloth wsX7_cloth) := goodIn_app (goodIn_r _ [828, 829, 830, 5] (by decide +kernel) (by decide +kernel)) g2_X7_cloth
set_option maxRecDepth 20000 in
theorem g2_wsX6_sum_r1 : GoodIn wsL_law wsX6_sum_r1 := goodIn_r _ [44, 687, 38, 653, 737, 805, 43, 806, 807, 77, 808, 836, 837, 838, 2, 839, 31, 840, 28, 841, 842, 471, 843, 498] (by decide +kernel) (by decide +kernel)
set_option maxRecDepth 20000 in
theorem g2_wsX6_sum_r2 : GoodIn wsL_law wsX6_sum_r2 := goodIn_r _ [499, 500, 73, 71, 480, 481, 482, 483] (by decide +kernel) (by decide +kernel)
set_option maxRecDepth 20000 in
theorem g2_X6_sum_c : GoodIn wsL_law [Cond.code yX6_sum cX6_sum 2 (some .long)] := goodIn_r _ [835] (by decide +kernel) (by decide +kernel)
theorem g2_X6_sum : GoodIn wsL_law wsX6_sum := (goodIn_ca (goodIn_ca (goodIn_ca (goodIn_ca (goodIn_c1 g2_X6_sum_c g2_wsX6_sum_r1) g2_wsX6_sum_r2) glX6) glX0) glX2)
set_option maxRecDepth 20000 in
theorem gL_law_X6_sum : GoodIn wsL_law (wsV RL 108 RX6 yX6_sum wsX6_sum) := goodIn_app (goodIn_r _ [832, 833, 834, 2] (by decide +kernel) (by decide +kernel)) g2_X6_sum
set_option maxRecDepth 20000 in
theorem g2_X7_sum_c : GoodIn wsL_law [Cond.code yX7_sum cX7_sum 5 (some .long)] := goodIn_r _ [847] (by decide +kernel) (by decide +kernel)
set_option maxRecDepth 20000 in
theorem g2_X7_sum_h : GoodIn wsL_law ([.fieldLink RX7 335 "CrownTableModel" "chest" "J", .fieldLink RX7 71 "CrownTableModel" "credit" "[J", .fieldLink RX7 277 "CrownTableModel" "debts" "I", .fieldLink RX7 59 "CrownTableModel" "left" "[I", .fieldLink RX7 68 "CrownTableModel" "pardoned" "[I", .fieldLink RX7 56 "CrownTableModel" "whole" "[I", .fieldLink RX7 325 "CrownTableModel" "brought" "J", .constantLong RX7 338 (-1), .methodLink RX7 351 yX7_lies, .instanceMethod yX7_lies, .selects RX7 yX7_lies yX7_lies, .initialized RX7, .code yX7_lies cX7_lies 4 (some .long), .fieldLink RX7 118 "CrownTableModel" "cloth" "[I", .methodLink RX7 341 yX7_worthOf, .static yX7_worthOf, .code yX7_worthOf cX7_worthOf 1 (some .int), .constant RX7 340 (240000)] : List Cond) := goodIn_r _ [708, 106, 578, 102, 105, 101, 698, 742, 820, 821, 822, 5, 823, 121, 774, 775, 776, 773] (by decide +kernel) (by decide +kernel)
theorem g2_X7_sum : GoodIn wsL_law wsX7_sum := (goodIn_ca (goodIn_c1 g2_X7_sum_c g2_X7_sum_h) glX7)
set_option maxRecDepth 20000 in
theorem gL_law_X7_sum : GoodIn wsL_law (wsV RL 112 RX7 yX7_sum wsX7_sum) := goodIn_app (goodIn_r _ [844, 845, 846, 5] (by decide +kernel) (by decide +kernel)) g2_X7_sum
set_option maxRecDepth 20000 in
theorem g2_X6_count_c : GoodIn wsL_law [Cond.code yX6_count cX6_count 2 (some .int)] := goodIn_r _ [851] (by decide +kernel) (by decide +kernel)
set_option maxRecDepth 20000 in
theorem g2_X6_count_h : GoodIn wsL_law ([.fieldLink RX6 65 "CrownTable" "debts" "LCrownTable$Rows;", .fieldLink RX6 68 "CrownTable" "roll" "LCrownTable$Rows;", .fieldLink RX6 71 "CrownTable" "sticks" "LCrownTable$Rows;", .fieldLink RX6 99 "CrownTable" "textsRead" "I", .fieldLink RX6 120 "CrownTable" "now" "I", .fieldLink RX6 10 "CrownTable" "tape" "LCrownTable$Tape;"] : List Cond) := goodIn_r _ [38, 39, 40, 158, 467, 15] (by decide +kernel) (by decide +kernel)
theorem g2_X6_count : GoodIn wsL_law wsX6_count := (goodIn_ca (goodIn_ca (goodIn_ca (goodIn_c1 g2_X6_count_c g2_X6_count_h) glX6) glX2) glX3)
set_option maxRecDepth 20000 in
theorem gL_law_X6_count : GoodIn wsL_law (wsV RL 113 RX6 yX6_count wsX6_count) := goodIn_app (goodIn_r _ [848, 849, 850, 2] (by decide +kernel) (by decide +kernel)) g2_X6_count
set_option maxRecDepth 20000 in
theorem g2_X7_count_c : GoodIn wsL_law [Cond.code yX7_count cX7_count 2 (some .int)] := goodIn_r _ [855] (by decide +kernel) (by decide +kernel)
set_option maxRecDepth 20000 in
theorem g2_X7_count_h : GoodIn wsL_law ([.fieldLink RX7 277 "CrownTableModel" "debts" "I", .fieldLink RX7 319 "CrownTableModel" "lines" "I", .fieldLink RX7 322 "CrownTableModel" "sticks" "I", .fieldLink RX7 220 "CrownTableModel" "texts" "I", .fieldLink RX7 267 "CrownTableModel" "term" "I", .fieldLink RX7 125 "CrownTableModel" "taped" "I"] : List Cond) := goodIn_r _ [578, 696, 697, 353, 488, 138] (by decide +kernel) (by decide +kernel)
theorem g2_X7_count : GoodIn wsL_law wsX7_count := (goodIn_ca (goodIn_c1 g2_X7_count_c g2_X7_count_h) glX7)
set_option maxRecDepth 20000 in
theorem gL_law_X7_count : GoodIn wsL_law (wsV RL 116 RX7 yX7_count wsX7_count) := goodIn_app (goodIn_r _ [852, 853, 854, 5] (by decide +kernel) (by decide +kernel)) g2_X7_count
