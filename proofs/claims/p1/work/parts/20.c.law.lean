set_option maxRecDepth 20000 in
theorem ggL_law_X6_inForce : GoodIn wsL_law wsX6_inForce := goodIn_r _ [493, 494, 495, 496, 2, 497, 29, 498, 28, 499, 500, 73, 71, 480, 481, 482, 483, 471, 856, 857, 858, 859, 860, 861, 862, 863, 864, 865, 866, 867, 868, 869, 870, 871, 872, 873, 952, 953, 954, 955] (by decide +kernel) (by decide +kernel)
set_option maxRecDepth 20000 in
theorem gL_law_X6_inForce : GoodIn wsL_law (wsV RL 37 RX6 yX6_inForce wsX6_inForce) := goodIn_app (goodIn_of _ (by decide +kernel)) ggL_law_X6_inForce
set_option maxRecDepth 20000 in
theorem ggL_law_X7_inForce : GoodIn wsL_law wsX7_inForce := goodIn_r _ [504, 151, 152, 5, 153, 505, 506, 507, 508, 489, 96, 95, 874, 875, 876, 877, 878, 879, 880, 881, 882, 883, 884, 885, 886, 887, 888, 889, 890, 891, 892, 893, 894, 895, 896, 897, 898, 899, 900, 901, 902, 903, 904, 905, 906, 907, 908, 909, 910, 911, 912, 913, 914, 915, 916, 917, 918, 919, 920, 921, 922, 923, 924, 925, 926, 927, 928, 929] (by decide +kernel) (by decide +kernel)
set_option maxRecDepth 20000 in
theorem gL_law_X7_inForce : GoodIn wsL_law (wsV RL 40 RX7 yX7_inForce wsX7_inForce) := goodIn_app (goodIn_of _ (by decide +kernel)) ggL_law_X7_inForce
set_option maxRecDepth 20000 in
theorem ggL_law_X6_would : GoodIn wsL_law wsX6_would := goodIn_r _ [512, 513, 38, 23, 451, 452, 453, 2, 454, 158, 25, 514, 515, 516, 517, 481, 28, 482, 483, 471, 71, 498, 499, 500, 73, 480, 518, 519, 520, 521, 522, 523, 524, 525, 526, 527, 528, 529, 467, 530, 22, 531, 532, 62, 533, 534, 535, 536, 33, 537, 538, 539, 540, 541, 542, 543, 544, 545, 546, 547, 548, 327, 549, 550, 347, 348, 551, 552, 553, 554, 555, 556, 557, 558, 559, 560, 561, 63, 562, 563, 564, 565, 566, 567, 568, 856, 857, 858, 859, 860, 861, 862, 863, 864, 865, 866, 867, 868, 869, 870, 871, 872, 873, 952, 953, 954, 955, 949, 950, 951, 957, 958, 959, 960] (by decide +kernel) (by decide +kernel)
set_option maxRecDepth 20000 in
theorem gL_law_X6_would : GoodIn wsL_law (wsV RL 41 RX6 yX6_would wsX6_would) := goodIn_app (goodIn_of _ (by decide +kernel)) ggL_law_X6_would
set_option maxRecDepth 20000 in
theorem ggL_law_X7_would : GoodIn wsL_law wsX7_would := goodIn_r _ [572, 102, 573, 459, 460, 461, 5, 462, 353, 151, 152, 153, 574, 575, 576, 577, 578, 579, 580, 581, 582, 87, 583, 584, 585, 586, 90, 91, 587, 92, 109, 93, 588, 589, 590, 591, 99, 488, 103, 100, 107, 104, 592, 593, 594, 595, 596, 597, 598, 874, 875, 876, 877, 878, 879, 880, 881, 882, 883, 884, 885, 886, 887, 888, 889, 890, 891, 892, 893, 894, 895, 896, 897, 898, 899, 900, 901, 902, 903, 904, 905, 906, 907, 908, 909, 910, 911, 912, 913, 914, 915, 916, 917, 918, 919, 920, 921, 922, 923, 924, 925, 926, 927, 928, 929] (by decide +kernel) (by decide +kernel)
set_option maxRecDepth 20000 in
theorem gL_law_X7_would : GoodIn wsL_law (wsV RL 45 RX7 yX7_would wsX7_would) := goodIn_app (goodIn_of _ (by decide +kernel)) ggL_law_X7_would
set_option maxRecDepth 20000 in
theorem ggL_law_X6_shire : GoodIn wsL_law wsX6_shire := goodIn_r _ [602, 603, 36, 37, 537, 538, 2, 539, 856, 857, 858, 859, 860, 861, 862, 863, 864, 865, 866, 867, 868, 869, 870, 871, 872, 873] (by decide +kernel) (by decide +kernel)
set_option maxRecDepth 20000 in
theorem gL_law_X6_shire : GoodIn wsL_law (wsV RL 46 RX6 yX6_shire wsX6_shire) := goodIn_app (goodIn_of _ (by decide +kernel)) ggL_law_X6_shire
set_option maxRecDepth 20000 in
theorem ggL_law_X7_shire : GoodIn wsL_law wsX7_shire := goodIn_r _ [607, 608, 97, 98, 151, 152, 5, 153, 609, 610, 611, 874, 875, 876, 877, 878, 879, 880, 881, 882, 883, 884, 885, 886, 887, 888, 889, 890, 891, 892, 893, 894, 895, 896, 897, 898, 899, 900, 901, 902, 903, 904, 905, 906, 907, 908, 909, 910, 911, 912, 913, 914, 915, 916, 917, 918, 919, 920, 921, 922, 923, 924, 925, 926, 927, 928, 929] (by decide +kernel) (by decide +kernel)
set_option maxRecDepth 20000 in
theorem gL_law_X7_shire : GoodIn wsL_law (wsV RL 49 RX7 yX7_shire wsX7_shire) := goodIn_app (goodIn_of _ (by decide +kernel)) ggL_law_X7_shire
