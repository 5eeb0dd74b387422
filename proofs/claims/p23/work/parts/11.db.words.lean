set_option maxRecDepth 20000 in
theorem g2_X6_about_c : GoodIn wsL_law [Cond.code yX6_about cX6_about 3 (some .int)] := goodIn_r _ [728] (by decide +kernel) (by decide +kernel)
set_option maxRecDepth 20000 in
theorem g2_X6_about_h : GoodIn wsL_law ([.fieldLink RX6 65 "CrownTable" "debts" "LCrownTable$Rows;", .instanceMethod yX2_has, .initialized RX2, .selects RX2 yX2_has yX2_has, .code yX2_has cX2_has 3 (some .boolean), .fieldLink RX2 28 "CrownTable$Rows" "size" "I", .fieldLink RX2 15 "CrownTable$Rows" "width" "I", .instanceMethod yX2_get, .selects RX2 yX2_get yX2_get, .code yX2_get cX2_get 3 (some .int), .fieldLink RX2 24 "CrownTable$Rows" "cells" "[I", .methodLink RX2 41 yX2_has] : List Cond) := goodIn_r _ [38, 481, 28, 482, 483, 471, 71, 498, 499, 500, 73, 480] (by decide +kernel) (by decide +kernel)
theorem g2_X6_about : GoodIn wsL_law wsX6_about := (goodIn_ca (goodIn_ca (goodIn_c1 g2_X6_about_c g2_X6_about_h) glX6) glX2)
set_option maxRecDepth 20000 in
theorem gL_law_X6_about : GoodIn wsL_law (wsV RL 71 RX6 yX6_about wsX6_about) := goodIn_app (goodIn_r _ [725, 726, 727, 2] (by decide +kernel) (by decide +kernel)) g2_X6_about
set_option maxRecDepth 20000 in
theorem g2_X7_about_c : GoodIn wsL_law [Cond.code yX7_about cX7_about 3 (some .int)] := goodIn_r _ [732] (by decide +kernel) (by decide +kernel)
set_option maxRecDepth 20000 in
theorem g2_X7_about_h : GoodIn wsL_law ([.fieldLink RX7 50 "CrownTableModel" "debtor" "[I", .fieldLink RX7 53 "CrownTableModel" "kind" "[I", .fieldLink RX7 56 "CrownTableModel" "whole" "[I", .fieldLink RX7 59 "CrownTableModel" "left" "[I", .fieldLink RX7 62 "CrownTableModel" "made" "[I", .fieldLink RX7 65 "CrownTableModel" "pledge" "[I", .fieldLink RX7 68 "CrownTableModel" "pardoned" "[I", .methodLink RX7 308 yX7_isDebt, .instanceMethod yX7_isDebt, .selects RX7 yX7_isDebt yX7_isDebt, .initialized RX7, .code yX7_isDebt cX7_isDebt 2 (some .boolean), .fieldLink RX7 277 "CrownTableModel" "debts" "I", .methodLink RX7 132 yX7_in, .static yX7_in, .code yX7_in cX7_in 3 (some .boolean)] : List Cond) := goodIn_r _ [99, 100, 101, 102, 103, 104, 105, 574, 575, 576, 5, 577, 578, 151, 152, 153] (by decide +kernel) (by decide +kernel)
theorem g2_X7_about : GoodIn wsL_law wsX7_about := (goodIn_ca (goodIn_c1 g2_X7_about_c g2_X7_about_h) glX7)
set_option maxRecDepth 20000 in
theorem gL_law_X7_about : GoodIn wsL_law (wsV RL 74 RX7 yX7_about wsX7_about) := goodIn_app (goodIn_r _ [729, 730, 731, 5] (by decide +kernel) (by decide +kernel)) g2_X7_about
set_option maxRecDepth 20000 in
theorem g2_wsX6_owe_r1 : GoodIn wsL_law wsX6_owe_r1 := goodIn_r _ [737, 31, 33, 35, 467, 537, 538, 2, 539, 518, 519, 520, 521, 38, 522, 523, 524, 525, 514, 515, 516, 517, 481, 28] (by decide +kernel) (by decide +kernel)
set_option maxRecDepth 20000 in
theorem g2_wsX6_owe_r2 : GoodIn wsL_law wsX6_owe_r2 := goodIn_r _ [482, 483, 471, 71, 498, 499, 500, 73, 480, 654, 655, 656, 657] (by decide +kernel) (by decide +kernel)
set_option maxRecDepth 20000 in
theorem g2_X6_owe_c : GoodIn wsL_law [Cond.code yX6_owe cX6_owe 3 (some .long)] := goodIn_r _ [736] (by decide +kernel) (by decide +kernel)
theorem g2_X6_owe : GoodIn wsL_law wsX6_owe := (goodIn_ca (goodIn_ca (goodIn_ca (goodIn_c1 g2_X6_owe_c g2_wsX6_owe_r1) g2_wsX6_owe_r2) glX6) glX2)
set_option maxRecDepth 20000 in
theorem gL_law_X6_owe : GoodIn wsL_law (wsV RL 75 RX6 yX6_owe wsX6_owe) := goodIn_app (goodIn_r _ [733, 734, 735, 2] (by decide +kernel) (by decide +kernel)) g2_X6_owe
set_option maxRecDepth 20000 in
theorem g2_X7_owe_c : GoodIn wsL_law [Cond.code yX7_owe cX7_owe 3 (some .long)] := goodIn_r _ [741] (by decide +kernel) (by decide +kernel)
set_option maxRecDepth 20000 in
theorem g2_X7_owe_h : GoodIn wsL_law ([.constantLong RX7 338 (-1), .fieldLink RX7 71 "CrownTableModel" "credit" "[J", .fieldLink RX7 75 "CrownTableModel" "held" "[Z", .fieldLink RX7 79 "CrownTableModel" "cameAt" "[I", .fieldLink RX7 267 "CrownTableModel" "term" "I", .methodLink RX7 281 yX7_isPerson, .static yX7_isPerson, .initialized RX7, .code yX7_isPerson cX7_isPerson 1 (some .boolean), .methodLink RX7 132 yX7_in, .static yX7_in, .code yX7_in cX7_in 3 (some .boolean), .methodLink RX7 289 yX7_allOf, .instanceMethod yX7_allOf, .selects RX7 yX7_allOf yX7_allOf, .code yX7_allOf cX7_allOf 5 (some .long), .fieldLink RX7 277 "CrownTableModel" "debts" "I", .fieldLink RX7 50 "CrownTableModel" "debtor" "[I", .fieldLink RX7 59 "CrownTableModel" "left" "[I", .methodLink RX7 316 yX7_owedOf, .instanceMethod yX7_owedOf, .selects RX7 yX7_owedOf yX7_owedOf, .code yX7_owedOf cX7_owedOf 4 (some .int)] : List Cond) := goodIn_r _ [742, 106, 107, 108, 488, 609, 610, 5, 611, 151, 152, 153, 592, 593, 594, 595, 578, 99, 102, 699, 700, 701, 702] (by decide +kernel) (by decide +kernel)
theorem g2_X7_owe : GoodIn wsL_law wsX7_owe := (goodIn_ca (goodIn_c1 g2_X7_owe_c g2_X7_owe_h) glX7)
set_option maxRecDepth 20000 in
theorem gL_law_X7_owe : GoodIn wsL_law (wsV RL 79 RX7 yX7_owe wsX7_owe) := goodIn_app (goodIn_r _ [738, 739, 740, 5] (by decide +kernel) (by decide +kernel)) g2_X7_owe
set_option maxRecDepth 20000 in
theorem g2_X6_line_c : GoodIn wsL_law [Cond.code yX6_line cX6_line 3 (some .int)] := goodIn_r _ [746] (by decide +kernel) (by decide +kernel)
set_option maxRecDepth 20000 in
theorem g2_X6_line_h : GoodIn wsL_law ([.fieldLink RX6 68 "CrownTable" "roll" "LCrownTable$Rows;", .instanceMethod yX2_has, .initialized RX2, .selects RX2 yX2_has yX2_has, .code yX2_has cX2_has 3 (some .boolean), .fieldLink RX2 28 "CrownTable$Rows" "size" "I", .fieldLink RX2 15 "CrownTable$Rows" "width" "I", .instanceMethod yX2_get, .selects RX2 yX2_get yX2_get, .code yX2_get cX2_get 3 (some .int), .fieldLink RX2 24 "CrownTable$Rows" "cells" "[I", .methodLink RX2 41 yX2_has] : List Cond) := goodIn_r _ [39, 481, 28, 482, 483, 471, 71, 498, 499, 500, 73, 480] (by decide +kernel) (by decide +kernel)
theorem g2_X6_line : GoodIn wsL_law wsX6_line := (goodIn_ca (goodIn_ca (goodIn_c1 g2_X6_line_c g2_X6_line_h) glX6) glX2)
set_option maxRecDepth 20000 in
theorem gL_law_X6_line : GoodIn wsL_law (wsV RL 80 RX6 yX6_line wsX6_line) := goodIn_app (goodIn_r _ [743, 744, 745, 2] (by decide +kernel) (by decide +kernel)) g2_X6_line
set_option maxRecDepth 20000 in
theorem g2_X7_line_c : GoodIn wsL_law [Cond.code yX7_line cX7_line 3 (some .int)] := goodIn_r _ [750] (by decide +kernel) (by decide +kernel)
set_option maxRecDepth 20000 in
theorem g2_X7_line_h : GoodIn wsL_law ([.fieldLink RX7 319 "CrownTableModel" "lines" "I", .fieldLink RX7 85 "CrownTableModel" "lineTerm" "[I", .fieldLink RX7 88 "CrownTableModel" "linePerson" "[I", .fieldLink RX7 91 "CrownTableModel" "lineDebt" "[I", .fieldLink RX7 94 "CrownTableModel" "lineAct" "[I", .fieldLink RX7 97 "CrownTableModel" "linePaid" "[I", .fieldLink RX7 100 "CrownTableModel" "lineStatement" "[I", .fieldLink RX7 103 "CrownTableModel" "lineText" "[I", .fieldLink RX7 106 "CrownTableModel" "lineStick" "[I", .methodLink RX7 132 yX7_in, .static yX7_in, .initialized RX7, .code yX7_in cX7_in 3 (some .boolean)] : List Cond) := goodIn_r _ [696, 110, 111, 112, 113, 114, 115, 116, 117, 151, 152, 5, 153] (by decide +kernel) (by decide +kernel)
theorem g2_X7_line : GoodIn wsL_law wsX7_line := (goodIn_ca (goodIn_c1 g2_X7_line_c g2_X7_line_h) glX7)
set_option maxRecDepth 20000 in
theorem gL_law_X7_line : GoodIn wsL_law (wsV RL 83 RX7 yX7_line wsX7_line) := goodIn_app (goodIn_r _ [747, 748, 749, 5] (by decide +kernel) (by decide +kernel)) g2_X7_line
set_option maxRecDepth 20000 in
theorem g2_X6_as_c : GoodIn wsL_law [Cond.code yX6_as cX6_as 5 (some .int)] := goodIn_r _ [754] (by decide +kernel) (by decide +kernel)
set_option maxRecDepth 20000 in
theorem g2_X6_as_h : GoodIn wsL_law ([.fieldLink RX6 65 "CrownTable" "debts" "LCrownTable$Rows;", .fieldLink RX6 120 "CrownTable" "now" "I", .fieldLink RX6 68 "CrownTable" "roll" "LCrownTable$Rows;", .instanceMethod yX2_has, .initialized RX2, .selects RX2 yX2_has yX2_has, .code yX2_has cX2_has 3 (some .boolean), .fieldLink RX2 28 "CrownTable$Rows" "size" "I", .fieldLink RX2 15 "CrownTable$Rows" "width" "I", .instanceMethod yX2_get, .selects RX2 yX2_get yX2_get, .code yX2_get cX2_get 3 (some .int), .fieldLink RX2 24 "CrownTable$Rows" "cells" "[I", .methodLink RX2 41 yX2_has] : List Cond) := goodIn_r _ [38, 467, 39, 481, 28, 482, 483, 471, 71, 498, 499, 500, 73, 480] (by decide +kernel) (by decide +kernel)
theorem g2_X6_as : GoodIn wsL_law wsX6_as := (goodIn_ca (goodIn_ca (goodIn_c1 g2_X6_as_c g2_X6_as_h) glX6) glX2)
set_option maxRecDepth 20000 in
theorem gL_law_X6_as : GoodIn wsL_law (wsV RL 84 RX6 yX6_as wsX6_as) := goodIn_app (goodIn_r _ [751, 752, 753, 2] (by decide +kernel) (by decide +kernel)) g2_X6_as
set_option maxRecDepth 20000 in
theorem g2_X7_as_c : GoodIn wsL_law [Cond.code yX7_as cX7_as 5 (some .int)] := goodIn_r _ [758] (by decide +kernel) (by decide +kernel)
set_option maxRecDepth 20000 in
theorem g2_X7_as_h : GoodIn wsL_law ([.fieldLink RX7 267 "CrownTableModel" "term" "I", .fieldLink RX7 62 "CrownTableModel" "made" "[I", .fieldLink RX7 56 "CrownTableModel" "whole" "[I", .fieldLink RX7 319 "CrownTableModel" "lines" "I", .fieldLink RX7 91 "CrownTableModel" "lineDebt" "[I", .fieldLink RX7 85 "CrownTableModel" "lineTerm" "[I", .fieldLink RX7 109 "CrownTableModel" "lineGone" "[I", .methodLink RX7 308 yX7_isDebt, .instanceMethod yX7_isDebt, .selects RX7 yX7_isDebt yX7_isDebt, .initialized RX7, .code yX7_isDebt cX7_isDebt 2 (some .boolean), .fieldLink RX7 277 "CrownTableModel" "debts" "I", .methodLink RX7 132 yX7_in, .static yX7_in, .code yX7_in cX7_in 3 (some .boolean)] : List Cond) := goodIn_r _ [488, 103, 101, 696, 112, 110, 118, 574, 575, 576, 5, 577, 578, 151, 152, 153] (by decide +kernel) (by decide +kernel)
theorem g2_X7_as : GoodIn wsL_law wsX7_as := (goodIn_ca (goodIn_c1 g2_X7_as_c g2_X7_as_h) glX7)
set_option maxRecDepth 20000 in
theorem gL_law_X7_as : GoodIn wsL_law (wsV RL 87 RX7 yX7_as wsX7_as) := goodIn_app (goodIn_r _ [755, 756, 757, 5] (by decide +kernel) (by decide +kernel)) g2_X7_as
set_option maxRecDepth 20000 in
theorem g2_X6_stick_c : GoodIn wsL_law [Cond.code yX6_stick cX6_stick 4 (some .int)] := goodIn_r _ [762] (by decide +kernel) (by decide +kernel)
set_option maxRecDepth 20000 in
theorem g2_X6_stick_h : GoodIn wsL_law ([.fieldLink RX6 71 "CrownTable" "sticks" "LCrownTable$Rows;", .instanceMethod yX2_has, .initialized RX2, .selects RX2 yX2_has yX2_has, .code yX2_has cX2_has 3 (some .boolean), .fieldLink RX2 28 "CrownTable$Rows" "size" "I", .fieldLink RX2 15 "CrownTable$Rows" "width" "I", .instanceMethod yX2_get, .selects RX2 yX2_get yX2_get, .code yX2_get cX2_get 3 (some .int), .fieldLink RX2 24 "CrownTable$Rows" "cells" "[I", .methodLink RX2 41 yX2_has, .static yX0_notches, .initialized RX0, .code yX0_notches cX0_notches 2 (some .int), .constant RX0 15 (240000)] : List Cond) := goodIn_r _ [40, 481, 28, 482, 483, 471, 71, 498, 499, 500, 73, 480, 763, 43, 764, 765] (by decide +kernel) (by decide +kernel)
theorem g2_X6_stick : GoodIn wsL_law wsX6_stick := (goodIn_ca (goodIn_ca (goodIn_c1 g2_X6_stick_c g2_X6_stick_h) glX6) glX2)
set_option maxRecDepth 20000 in
theorem gL_law_X6_stick : GoodIn wsL_law (wsV RL 88 RX6 yX6_stick wsX6_stick) := goodIn_app (goodIn_r _ [759, 760, 761, 2] (by decide +kernel) (by decide +kernel)) g2_X6_stick
set_option maxRecDepth 20000 in
theorem g2_X7_stick_c : GoodIn wsL_law [Cond.code yX7_stick cX7_stick 3 (some .int)] := goodIn_r _ [769] (by decide +kernel) (by decide +kernel)
set_option maxRecDepth 20000 in
theorem g2_X7_stick_h : GoodIn wsL_law ([.fieldLink RX7 322 "CrownTableModel" "sticks" "I", .fieldLink RX7 112 "CrownTableModel" "stick" "[I", .methodLink RX7 132 yX7_in, .static yX7_in, .initialized RX7, .code yX7_in cX7_in 3 (some .boolean), .methodLink RX7 344 yX7_notch, .static yX7_notch, .code yX7_notch cX7_notch 2 (some .int), .constant RX7 340 (240000), .methodLink RX7 341 yX7_worthOf, .static yX7_worthOf, .code yX7_worthOf cX7_worthOf 1 (some .int)] : List Cond) := goodIn_r _ [697, 119, 151, 152, 5, 153, 770, 771, 772, 773, 774, 775, 776] (by decide +kernel) (by decide +kernel)
theorem g2_X7_stick : GoodIn wsL_law wsX7_stick := (goodIn_ca (goodIn_c1 g2_X7_stick_c g2_X7_stick_h) glX7)
set_option maxRecDepth 20000 in
theorem gL_law_X7_stick : GoodIn wsL_law (wsV RL 91 RX7 yX7_stick wsX7_stick) := goodIn_app (goodIn_r _ [766, 767, 768, 5] (by decide +kernel) (by decide +kernel)) g2_X7_stick

set_option maxRecDepth 20000 in
theorem g2_X6_fits_c : GoodIn wsL_law [Cond.code yX6_fits cX6_fits 5 (some .int)] := goodIn_r _ [780] (by decide +kernel) (by decide +kernel)
set_option maxRecDepth 20000 in
theorem g2_X6_fits_h : GoodIn wsL_law ([.fieldLink RX6 71 "CrownTable" "sticks" "LCrownTable$Rows;", .constant RX6 138 (10000000), .instanceMethod yX2_has, .initialized RX2, .selects RX2 yX2_has yX2_has, .code yX2_has cX2_has 3 (some .boolean), .fieldLink RX2 28 "CrownTable$Rows" "size" "I", .fieldLink RX2 15 "CrownTable$Rows" "width" "I", .instanceMethod yX2_get, .selects RX2 yX2_get yX2_get, .code yX2_get cX2_get 3 (some .int), .fieldLink RX2 24 "CrownTable$Rows" "cells" "[I", .methodLink RX2 41 yX2_has, .static yX0_notches, .initialized RX0, .code yX0_notches cX0_notches 2 (some .int), .constant RX0 15 (240000)] : List Cond) := goodIn_r _ [40, 513, 481, 28, 482, 483, 471, 71, 498, 499, 500, 73, 480, 763, 43, 764, 765] (by decide +kernel) (by decide +kernel)
theorem g2_X6_fits : GoodIn wsL_law wsX6_fits := (goodIn_ca (goodIn_ca (goodIn_c1 g2_X6_fits_c g2_X6_fits_h) glX6) glX2)
set_option maxRecDepth 20000 in
theorem gL_law_X6_fits : GoodIn wsL_law (wsV RL 92 RX6 yX6_fits wsX6_fits) := goodIn_app (goodIn_r _ [777, 778, 779, 2] (by decide +kernel) (by decide +kernel)) g2_X6_fits
set_option maxRecDepth 20000 in
theorem g2_X7_fits_c : GoodIn wsL_law [Cond.code yX7_fits cX7_fits 4 (some .int)] := goodIn_r _ [784] (by decide +kernel) (by decide +kernel)
set_option maxRecDepth 20000 in
theorem g2_X7_fits_h : GoodIn wsL_law ([.fieldLink RX7 322 "CrownTableModel" "sticks" "I", .constant RX7 311 (10000000), .fieldLink RX7 112 "CrownTableModel" "stick" "[I", .methodLink RX7 132 yX7_in, .static yX7_in, .initialized RX7, .code yX7_in cX7_in 3 (some .boolean), .methodLink RX7 344 yX7_notch, .static yX7_notch, .code yX7_notch cX7_notch 2 (some .int), .constant RX7 340 (240000), .methodLink RX7 341 yX7_worthOf, .static yX7_worthOf, .code yX7_worthOf cX7_worthOf 1 (some .int)] : List Cond) := goodIn_r _ [697, 573, 119, 151, 152, 5, 153, 770, 771, 772, 773, 774, 775, 776] (by decide +kernel) (by decide +kernel)
theorem g2_X7_fits : GoodIn wsL_law wsX7_fits := (goodIn_ca (goodIn_c1 g2_X7_fits_c g2_X7_fits_h) glX7)
set_option maxRecDepth 20000 in
theorem gL_law_X7_fits : GoodIn wsL_law (wsV RL 95 RX7 yX7_fits wsX7_fits) := goodIn_app (goodIn_r _ [781, 782, 783, 5] (by decide +kernel) (by decide +kernel)) g2_X7_fits
set_option maxRecDepth 20000 in
theorem g2_X6_lay_c : GoodIn wsL_law [Cond.code yX6_lay cX6_lay 2 (some .int)] := goodIn_r _ [788] (by decide +kernel) (by decide +kernel)
set_option maxRecDepth 20000 in
theorem g2_X6_lay_h : GoodIn wsL_law ([.fieldLink RX6 77 "CrownTable" "table" "LCrownTable$Cloth;", .methodLink RX6 169 yX6_isSum, .static yX6_isSum, .initialized RX6, .code yX6_isSum cX6_isSum 1 (some .boolean), .constant RX6 183 (1000000), .instanceMethod yX0_layDown, .initialized RX0, .selects RX0 yX0_layDown yX0_layDown, .code yX0_layDown cX0_layDown 4 (some .int), .fieldLink RX0 9 "CrownTable$Cloth" "counters" "[I", .fieldLink RX0 23 "CrownTable$Cloth" "OF_THE_NEXT" "[I", .methodLink RX0 19 yX0_notches, .static yX0_notches, .code yX0_notches cX0_notches 2 (some .int), .constant RX0 15 (240000)] : List Cond) := goodIn_r _ [44, 616, 617, 2, 618, 619, 789, 43, 790, 791, 77, 792, 793, 763, 764, 765] (by decide +kernel) (by decide +kernel)
theorem g2_X6_lay : GoodIn wsL_law wsX6_lay := (goodIn_ca (goodIn_ca (goodIn_c1 g2_X6_lay_c g2_X6_lay_h) glX6) glX0)
set_option maxRecDepth 20000 in
theorem gL_law_X6_lay : GoodIn wsL_law (wsV RL 96 RX6 yX6_lay wsX6_lay) := goodIn_app (goodIn_r _ [785, 786, 787, 2] (by decide +kernel) (by decide +kernel)) g2_X6_lay
set_option maxRecDepth 20000 in
theorem g2_X7_lay_c : GoodIn wsL_law [Cond.code yX7_lay cX7_lay 4 (some .int)] := goodIn_r _ [797] (by decide +kernel) (by decide +kernel)
set_option maxRecDepth 20000 in
theorem g2_X7_lay_h : GoodIn wsL_law ([.constant RX7 284 (1000000), .fieldLink RX7 118 "CrownTableModel" "cloth" "[I", .methodLink RX7 132 yX7_in, .static yX7_in, .initialized RX7, .code yX7_in cX7_in 3 (some .boolean), .methodLink RX7 344 yX7_notch, .static yX7_notch, .code yX7_notch cX7_notch 2 (some .int), .constant RX7 340 (240000), .methodLink RX7 341 yX7_worthOf, .static yX7_worthOf, .code yX7_worthOf cX7_worthOf 1 (some .int), .methodLink RX7 348 yX7_next, .static yX7_next, .code yX7_next cX7_next 1 (some .int)] : List Cond) := goodIn_r _ [628, 121, 151, 152, 5, 153, 770, 771, 772, 773, 774, 775, 776, 798, 799, 800] (by decide +kernel) (by decide +kernel)
theorem g2_X7_lay : GoodIn wsL_law wsX7_lay := (goodIn_ca (goodIn_c1 g2_X7_lay_c g2_X7_lay_h) glX7)
set_option maxRecDepth 20000 in
theorem gL_law_X7_lay : GoodIn wsL_law (wsV RL 99 RX7 yX7_lay wsX7_lay) := goodIn_app (goodIn_r _ [794, 795, 796, 5] (by decide +kernel) (by decide +kernel)) g2_X7_lay
set_option maxRecDepth 20000 in
theorem g2_X6_take_c : GoodIn wsL_law [Cond.code yX6_take cX6_take 2 (some .int)] := goodIn_r _ [804] (by decide +kernel) (by decide +kernel)
set_option maxRecDepth 20000 in
theorem g2_X6_take_h : GoodIn wsL_law ([.fieldLink RX6 77 "CrownTable" "table" "LCrownTable$Cloth;", .methodLink RX6 169 yX6_isSum, .static yX6_isSum, .initialized RX6, .code yX6_isSum cX6_isSum 1 (some .boolean), .constant RX6 183 (1000000), .instanceMethod yX0_lies, .initialized RX0, .selects RX0 yX0_lies yX0_lies, .code yX0_lies cX0_lies 4 (some .long), .fieldLink RX0 9 "CrownTable$Cloth" "counters" "[I", .fieldLink RX0 16 "CrownTable$Cloth" "WORTHS" "[I", .instanceMethod yX0_takeUp, .selects RX0 yX0_takeUp yX0_takeUp, .code yX0_takeUp cX0_takeUp 5 (some .int), .methodLink RX0 19 yX0_notches, .static yX0_notches, .code yX0_notches cX0_notches 2 (some .int), .constant RX0 15 (240000), .methodLink RX0 26 yX0_bringDown, .instanceMethod yX0_bringDown, .selects RX0 yX0_bringDown yX0_bringDown, .code yX0_bringDown cX0_bringDown 4 (some .int), .fieldLink RX0 23 "CrownTable$Cloth" "OF_THE_NEXT" "[I"] : List Cond) := goodIn_r _ [44, 616, 617, 2, 618, 619, 805, 43, 806, 807, 77, 808, 809, 810, 811, 793, 763, 764, 765, 812, 813, 814, 815, 792] (by decide +kernel) (by decide +kernel)
theorem g2_X6_take : GoodIn wsL_law wsX6_take := (goodIn_ca (goodIn_ca (goodIn_c1 g2_X6_take_c g2_X6_take_h) glX6) glX0)
set_option maxRecDepth 20000 in
theorem gL_law_X6_take : GoodIn wsL_law (wsV RL 100 RX6 yX6_take wsX6_take) := goodIn_app (goodIn_r _ [801, 802, 803, 2] (by decide +kernel) (by decide +kernel)) g2_X6_take
set_option maxRecDepth 20000 in
theorem g2_X7_take_c : GoodIn wsL_law [Cond.code yX7_take cX7_take 6 (some .int)] := goodIn_r _ [819] (by decide +kernel) (by decide +kernel)
set_option maxRecDepth 20000 in
theorem g2_X7_take_h : GoodIn wsL_law ([.constant RX7 284 (1000000), .fieldLink RX7 118 "CrownTableModel" "cloth" "[I", .methodLink RX7 132 yX7_in, .static yX7_in, .initialized RX7, .code yX7_in cX7_in 3 (some .boolean), .methodLink RX7 351 yX7_lies, .instanceMethod yX7_lies, .selects RX7 yX7_lies yX7_lies, .code yX7_lies cX7_lies 4 (some .long), .methodLink RX7 341 yX7_worthOf, .static yX7_worthOf, .code yX7_worthOf cX7_worthOf 1 (some .int), .constant RX7 340 (240000), .methodLink RX7 344 yX7_notch, .static yX7_notch, .code yX7_notch cX7_notch 2 (some .int), .methodLink RX7 348 yX7_next, .static yX7_next, .code yX7_next cX7_next 1 (some .int)] : List Cond) := goodIn_r _ [628, 121, 151, 152, 5, 153, 820, 821, 822, 823, 774, 775, 776, 773, 770, 771, 772, 798, 799, 800] (by decide +kernel) (by decide +kernel)
theorem g2_X7_take : GoodIn wsL_law wsX7_take := (goodIn_ca (goodIn_c1 g2_X7_take_c g2_X7_take_h) glX7)
set_option maxRecDepth 20000 in
theorem gL_law_X7_take : GoodIn wsL_law (wsV RL 103 RX7 yX7_take wsX7_take) := goodIn_app (goodIn_r _ [816, 817, 818, 5] (by decide +kernel) (by decide +kernel)) g2_X7_take
set_option maxRecDepth 20000 in
theorem g2_X6_cloth_c : GoodIn wsL_law [Cond.code yX6_cloth cX6_cloth 2 (some .int)] := goodIn_r _ [827] (by decide +kernel) (by decide +kernel)
set_option maxRecDepth 20000 in
theorem g2_X6_cloth_h : GoodIn wsL_law ([.fieldLink RX6 77 "CrownTable" "table" "LCrownTable$Cloth;"] : List Cond) := goodIn_r _ [44] (by decide +kernel) (by decide +kernel)
theorem g2_X6_cloth : GoodIn wsL_law wsX6_cloth := (goodIn_ca (goodIn_ca (goodIn_c1 g2_X6_cloth_c g2_X6_cloth_h) glX6) glX0)
set_option maxRecDepth 20000 in
theorem gL_law_X6_cloth : GoodIn wsL_law (wsV RL 104 RX6 yX6_cloth wsX6_cloth) := goodIn_app (goodIn_r _ [824, 825, 826, 2] (by decide +kernel) (by decide +kernel)) g2_X6_cloth
set_option maxRecDepth 20000 in
theorem g2_X7_cloth_c : GoodIn wsL_law [Cond.code yX7_cloth cX7_cloth 2 (some .int)] := goodIn_r _ [831] (by decide +kernel) (by decide +kernel)
set_option maxRecDepth 20000 in
theorem g2_X7_cloth_h : GoodIn wsL_law ([.fieldLink RX7 118 "CrownTableModel" "cloth" "[I", .methodLink RX7 132 yX7_in, .static yX7_in, .initialized RX7, .code yX7_in cX7_in 3 (some .boolean)] : List Cond) := goodIn_r _ [121, 151, 152, 5, 153] (by decide +kernel) (by decide +kernel)
theorem g2_X7_cloth : GoodIn wsL_law wsX7_cloth := (goodIn_ca (goodIn_c1 g2_X7_cloth_c g2_X7_cloth_h) glX7)
set_option maxRecDepth 20000 in
theorem gL_law_X7_cloth : GoodIn wsL_law (wsV RL 107 RX7 yX7_cloth wsX7_cloth) := goodIn_app (goodIn_r _ [828, 829, 830, 5] (by decide +kernel) (by decide +kernel)) g2_X7_cloth
set_option maxRecDepth 20000 in
theorem g2_wsX6_sum_r1 : GoodIn wsL_law wsX6_sum_r1 := goodIn_r _ [44, 687, 38, 653, 737, 805, 43, 806, 807, 77, 808, 836, 837, 838, 2, 839, 31, 840, 28, 841, 842, 471, 843, 498] (by decide +kernel) (by decide +kernel)
set_option maxRecDepth 20000 in
theorem g2_wsX6_sum_r2 : GoodIn wsL_law wsX6_sum_r2 := goodIn_r _ [499, 500, 73, 71, 480, 481, 482, 483] (by decide +kernel) (by decide +kernel)
set_option maxRecDepth 20000 in
theorem g2_X6_sum_c : GoodIn wsL_law [Cond.code yX6_sum cX6_sum 2 (some .long)] := goodIn_r _ [835] (by decide +kernel) (by decide +kernel)
theorem g2_X6_sum : GoodIn wsL_law wsX6_sum := (goodIn_ca (goodIn_ca (goodIn_ca (goodIn_ca (goodIn_c1 g2_X6_sum_c g2_wsX6_sum_r1) g2_wsX6_sum_r2) glX6) glX0) glX2)
set_option maxRecDepth 20000 in
theorem gL_law_X6_sum : GoodIn wsL_law (wsV RL 108 RX6 yX6_sum wsX6_sum) := goodIn_app (goodIn_r _ [832, 833, 834, 2] (by decide +kernel) (by decide +kernel)) g2_X6_sum
set_option maxRecDepth 20000 in
theorem g2_X7_sum_c : GoodIn wsL_law [Cond.code yX7_sum cX7_sum 5 (some .long)] := goodIn_r _ [847] (by decide +kernel) (by decide +kernel)
set_option maxRecDepth 20000 in
theorem g2_X7_sum_h : GoodIn wsL_law ([.fieldLink RX7 335 "CrownTableModel" "chest" "J", .fieldLink RX7 71 "CrownTableModel" "credit" "[J", .fieldLink RX7 277 "CrownTableModel" "debts" "I", .fieldLink RX7 59 "CrownTableModel" "left" "[I", .fieldLink RX7 68 "CrownTableModel" "pardoned" "[I", .fieldLink RX7 56 "CrownTableModel" "whole" "[I", .fieldLink RX7 325 "CrownTableModel" "brought" "J", .constantLong RX7 338 (-1), .methodLink RX7 351 yX7_lies, .instanceMethod yX7_lies, .selects RX7 yX7_lies yX7_lies, .initialized RX7, .code yX7_lies cX7_lies 4 (some .long), .fieldLink RX7 118 "CrownTableModel" "cloth" "[I", .methodLink RX7 341 yX7_worthOf, .static yX7_worthOf, .code yX7_worthOf cX7_worthOf 1 (some .int), .constant RX7 340 (240000)] : List Cond) := goodIn_r _ [708, 106, 578, 102, 105, 101, 698, 742, 820, 821, 822, 5, 823, 121, 774, 775, 776, 773] (by decide +kernel) (by decide +kernel)
theorem g2_X7_sum : GoodIn wsL_law wsX7_sum := (goodIn_ca (goodIn_c1 g2_X7_sum_c g2_X7_sum_h) glX7)
set_option maxRecDepth 20000 in
theorem gL_law_X7_sum : GoodIn wsL_law (wsV RL 112 RX7 yX7_sum wsX7_sum) := goodIn_app (goodIn_r _ [844, 845, 846, 5] (by decide +kernel) (by decide +kernel)) g2_X7_sum
set_option maxRecDepth 20000 in
theorem g2_X6_count_c : GoodIn wsL_law [Cond.code yX6_count cX6_count 2 (some .int)] := goodIn_r _ [851] (by decide +kernel) (by decide +kernel)
set_option maxRecDepth 20000 in
theorem g2_X6_count_h : GoodIn wsL_law ([.fieldLink RX6 65 "CrownTable" "debts" "LCrownTable$Rows;", .fieldLink RX6 68 "CrownTable" "roll" "LCrownTable$Rows;", .fieldLink RX6 71 "CrownTable" "sticks" "LCrownTable$Rows;", .fieldLink RX6 99 "CrownTable" "textsRead" "I", .fieldLink RX6 120 "CrownTable" "now" "I", .fieldLink RX6 10 "CrownTable" "tape" "LCrownTable$Tape;"] : List Cond) := goodIn_r _ [38, 39, 40, 158, 467, 15] (by decide +kernel) (by decide +kernel)
theorem g2_X6_count : GoodIn wsL_law wsX6_count := (goodIn_ca (goodIn_ca (goodIn_ca (goodIn_c1 g2_X6_count_c g2_X6_count_h) glX6) glX2) glX3)
set_option maxRecDepth 20000 in
theorem gL_law_X6_count : GoodIn wsL_law (wsV RL 113 RX6 yX6_count wsX6_count) := goodIn_app (goodIn_r _ [848, 849, 850, 2] (by decide +kernel) (by decide +kernel)) g2_X6_count
set_option maxRecDepth 20000 in
theorem g2_X7_count_c : GoodIn wsL_law [Cond.code yX7_count cX7_count 2 (some .int)] := goodIn_r _ [855] (by decide +kernel) (by decide +kernel)
set_option maxRecDepth 20000 in
theorem g2_X7_count_h : GoodIn wsL_law ([.fieldLink RX7 277 "CrownTableModel" "debts" "I", .fieldLink RX7 319 "CrownTableModel" "lines" "I", .fieldLink RX7 322 "CrownTableModel" "sticks" "I", .fieldLink RX7 220 "CrownTableModel" "texts" "I", .fieldLink RX7 267 "CrownTableModel" "term" "I", .fieldLink RX7 125 "CrownTableModel" "taped" "I"] : List Cond) := goodIn_r _ [578, 696, 697, 353, 488, 138] (by decide +kernel) (by decide +kernel)
theorem g2_X7_count : GoodIn wsL_law wsX7_count := (goodIn_ca (goodIn_c1 g2_X7_count_c g2_X7_count_h) glX7)
set_option maxRecDepth 20000 in
theorem gL_law_X7_count : GoodIn wsL_law (wsV RL 116 RX7 yX7_count wsX7_count) := goodIn_app (goodIn_r _ [852, 853, 854, 5] (by decide +kernel) (by decide +kernel)) g2_X7_count
