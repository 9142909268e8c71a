set_option maxRecDepth 20000 in
theorem gq_X8_release_0 : GoodIn wsL_law [.code yX8_release cX8_release 3 (some .int)] := goodIn_r _ [700] (by decide +kernel) (by decide +kernel)
set_option maxRecDepth 20000 in
theorem gq_X8_release_1 : GoodIn wsL_law wsX8_release_r1 := goodIn_r _ [38, 474, 701, 702, 703, 2, 704, 41, 475, 705, 706, 707, 104, 708, 123, 125, 127, 126, 709, 710, 711, 712, 713, 714] (by decide +kernel) (by decide +kernel)
set_option maxRecDepth 20000 in
theorem gq_X8_release_2 : GoodIn wsL_law wsX8_release_r2 := goodIn_r _ [715] (by decide +kernel) (by decide +kernel)
set_option maxRecDepth 20000 in
theorem gq_X8_release_3 : GoodIn wsL_law wsX80 := goodIn_r _ [839, 840, 841, 842, 843, 844, 845, 846, 847] (by decide +kernel) (by decide +kernel)
set_option maxRecDepth 20000 in
theorem gq_X8_release_4 : GoodIn wsL_law wsX40 := goodIn_r _ [917, 918, 919, 920, 921, 922, 923, 924, 925, 926, 927, 928, 929, 930, 931, 932, 933, 934, 935, 936] (by decide +kernel) (by decide +kernel)
set_option maxRecDepth 20000 in
theorem gq_X8_release_5 : GoodIn wsL_law wsX30 := goodIn_r _ [940, 941, 942, 943, 944] (by decide +kernel) (by decide +kernel)
theorem ggL_law_X8_release : GoodIn wsL_law wsX8_release := goodIn_app gq_X8_release_0 (goodIn_app (goodIn_app (goodIn_app (goodIn_app gq_X8_release_1 gq_X8_release_2) gq_X8_release_3) gq_X8_release_4) gq_X8_release_5)
set_option maxRecDepth 20000 in
theorem gL_law_X8_release : GoodIn wsL_law (wsV RL 61 RX8 yX8_release wsX8_release) := goodIn_app (goodIn_of _ (by decide +kernel)) ggL_law_X8_release

set_option maxRecDepth 20000 in
theorem gq_X9_release_0 : GoodIn wsL_law [.code yX9_release cX9_release 5 (some .int)] := goodIn_r _ [719] (by decide +kernel) (by decide +kernel)
set_option maxRecDepth 20000 in
theorem gq_X9_release_1 : GoodIn wsL_law ([.fieldLink RX9 192 "BranchPlayModel" "changes" "I", .fieldLink RX9 101 "BranchPlayModel" "rHas" "[J", .fieldLink RX9 95 "BranchPlayModel" "rTick" "[I", .fieldLink RX9 98 "BranchPlayModel" "rHot" "[Z", .fieldLink RX9 104 "BranchPlayModel" "rHeld" "[I", .methodLink RX9 266 yX9_isRelease, .instanceMethod yX9_isRelease, .selects RX9 yX9_isRelease yX9_isRelease, .initialized RX9, .code yX9_isRelease cX9_isRelease 2 (some .boolean), .fieldLink RX9 113 "BranchPlayModel" "played" "I", .fieldLink RX9 92 "BranchPlayModel" "releases" "[I", .methodLink RX9 185 yX9_in, .static yX9_in, .code yX9_in cX9_in 3 (some .boolean), .methodLink RX9 199 yX9_isIn, .static yX9_isIn, .code yX9_isIn cX9_isIn 3 (some .boolean)] : List Cond) := goodIn_r _ [404, 162, 160, 161, 163, 720, 721, 722, 5, 723, 166, 159, 329, 330, 331, 629, 630, 631] (by decide +kernel) (by decide +kernel)
set_option maxRecDepth 20000 in
theorem gq_X9_release_2 : GoodIn wsL_law wsX90 := goodIn_r _ [848, 849, 850, 851, 852, 853, 854, 855, 856, 857, 858, 859, 860, 861, 862, 863, 864, 865, 866, 867, 868, 869, 870, 871, 872, 873, 874, 875, 876, 877, 878, 879, 880, 881, 882, 883, 884, 885, 886, 887, 888, 889, 890, 891] (by decide +kernel) (by decide +kernel)
theorem ggL_law_X9_release : GoodIn wsL_law wsX9_release := goodIn_app gq_X9_release_0 (goodIn_app gq_X9_release_1 gq_X9_release_2)
set_option maxRecDepth 20000 in
theorem gL_law_X9_release : GoodIn wsL_law (wsV RL 64 RX9 yX9_release wsX9_release) := goodIn_app (goodIn_of _ (by decide +kernel)) ggL_law_X9_release

set_option maxRecDepth 20000 in
theorem gq_X8_has_0 : GoodIn wsL_law [.code yX8_has cX8_has 2 (some .long)] := goodIn_r _ [727] (by decide +kernel) (by decide +kernel)
set_option maxRecDepth 20000 in
theorem gq_X8_has_1 : GoodIn wsL_law ([.fieldLink RX8 55 "BranchPlay" "latest" "LBranchPlay$Play;", .fieldLink RX8 132 "BranchPlay$Play" "log" "LBranchPlay$Log;", .fieldLink RX8 146 "BranchPlay$Log" "contents" "[J", .constantLong RX8 149 (-9), .methodLink RX8 142 yX8_isRelease, .instanceMethod yX8_isRelease, .selects RX8 yX8_isRelease yX8_isRelease, .initialized RX8, .code yX8_isRelease cX8_isRelease 2 (some .boolean), .fieldLink RX8 65 "BranchPlay" "playedWay" "I", .fieldLink RX8 136 "BranchPlay$Log" "length" "I"] : List Cond) := goodIn_r _ [38, 474, 728, 729, 701, 702, 703, 2, 704, 41, 475] (by decide +kernel) (by decide +kernel)
set_option maxRecDepth 20000 in
theorem gq_X8_has_2 : GoodIn wsL_law wsX80 := goodIn_r _ [839, 840, 841, 842, 843, 844, 845, 846, 847] (by decide +kernel) (by decide +kernel)
set_option maxRecDepth 20000 in
theorem gq_X8_has_3 : GoodIn wsL_law wsX40 := goodIn_r _ [917, 918, 919, 920, 921, 922, 923, 924, 925, 926, 927, 928, 929, 930, 931, 932, 933, 934, 935, 936] (by decide +kernel) (by decide +kernel)
set_option maxRecDepth 20000 in
theorem gq_X8_has_4 : GoodIn wsL_law wsX30 := goodIn_r _ [940, 941, 942, 943, 944] (by decide +kernel) (by decide +kernel)
theorem ggL_law_X8_has : GoodIn wsL_law wsX8_has := goodIn_app gq_X8_has_0 (goodIn_app (goodIn_app (goodIn_app gq_X8_has_1 gq_X8_has_2) gq_X8_has_3) gq_X8_has_4)
set_option maxRecDepth 20000 in
theorem gL_law_X8_has : GoodIn wsL_law (wsV RL 65 RX8 yX8_has wsX8_has) := goodIn_app (goodIn_of _ (by decide +kernel)) ggL_law_X8_has

set_option maxRecDepth 20000 in
theorem gq_X9_has_0 : GoodIn wsL_law [.code yX9_has cX9_has 2 (some .long)] := goodIn_r _ [733] (by decide +kernel) (by decide +kernel)
set_option maxRecDepth 20000 in
theorem gq_X9_has_1 : GoodIn wsL_law ([.fieldLink RX9 101 "BranchPlayModel" "rHas" "[J", .constantLong RX9 269 (-9), .methodLink RX9 266 yX9_isRelease, .instanceMethod yX9_isRelease, .selects RX9 yX9_isRelease yX9_isRelease, .initialized RX9, .code yX9_isRelease cX9_isRelease 2 (some .boolean), .fieldLink RX9 113 "BranchPlayModel" "played" "I", .fieldLink RX9 92 "BranchPlayModel" "releases" "[I", .methodLink RX9 185 yX9_in, .static yX9_in, .code yX9_in cX9_in 3 (some .boolean)] : List Cond) := goodIn_r _ [162, 734, 720, 721, 722, 5, 723, 166, 159, 329, 330, 331] (by decide +kernel) (by decide +kernel)
set_option maxRecDepth 20000 in
theorem gq_X9_has_2 : GoodIn wsL_law wsX90 := goodIn_r _ [848, 849, 850, 851, 852, 853, 854, 855, 856, 857, 858, 859, 860, 861, 862, 863, 864, 865, 866, 867, 868, 869, 870, 871, 872, 873, 874, 875, 876, 877, 878, 879, 880, 881, 882, 883, 884, 885, 886, 887, 888, 889, 890, 891] (by decide +kernel) (by decide +kernel)
theorem ggL_law_X9_has : GoodIn wsL_law wsX9_has := goodIn_app gq_X9_has_0 (goodIn_app gq_X9_has_1 gq_X9_has_2)
set_option maxRecDepth 20000 in
theorem gL_law_X9_has : GoodIn wsL_law (wsV RL 69 RX9 yX9_has wsX9_has) := goodIn_app (goodIn_of _ (by decide +kernel)) ggL_law_X9_has

set_option maxRecDepth 20000 in
theorem gq_X8_sum_0 : GoodIn wsL_law [.code yX8_sum cX8_sum 2 (some .int)] := goodIn_r _ [738] (by decide +kernel) (by decide +kernel)
set_option maxRecDepth 20000 in
theorem gq_X8_sum_1 : GoodIn wsL_law wsX8_sum_r1 := goodIn_r _ [41, 38, 739, 740, 741, 37, 742, 112, 108, 113, 743, 744, 745, 746, 114, 515, 747, 748, 749, 750, 420, 2, 421, 522] (by decide +kernel) (by decide +kernel)
set_option maxRecDepth 20000 in
theorem gq_X8_sum_2 : GoodIn wsL_law wsX8_sum_r2 := goodIn_r _ [523, 524, 525, 89, 90, 751, 752, 753, 754, 507, 508, 509, 510, 755, 710, 711, 712, 713, 714, 715, 756, 757, 758, 759] (by decide +kernel) (by decide +kernel)
set_option maxRecDepth 20000 in
theorem gq_X8_sum_3 : GoodIn wsL_law wsX8_sum_r3 := goodIn_r _ [760, 761, 762, 763, 764, 765, 766, 767, 562] (by decide +kernel) (by decide +kernel)
set_option maxRecDepth 20000 in
theorem gq_X8_sum_4 : GoodIn wsL_law wsX80 := goodIn_r _ [839, 840, 841, 842, 843, 844, 845, 846, 847] (by decide +kernel) (by decide +kernel)
set_option maxRecDepth 20000 in
theorem gq_X8_sum_5 : GoodIn wsL_law wsX40 := goodIn_r _ [917, 918, 919, 920, 921, 922, 923, 924, 925, 926, 927, 928, 929, 930, 931, 932, 933, 934, 935, 936] (by decide +kernel) (by decide +kernel)
set_option maxRecDepth 20000 in
theorem gq_X8_sum_6 : GoodIn wsL_law wsX10 := goodIn_r _ [901, 902, 903, 904, 905, 906, 907, 908, 909, 910, 911, 912] (by decide +kernel) (by decide +kernel)
theorem ggL_law_X8_sum : GoodIn wsL_law wsX8_sum := goodIn_app gq_X8_sum_0 (goodIn_app (goodIn_app (goodIn_app (goodIn_app gq_X8_sum_1 (goodIn_app gq_X8_sum_2 gq_X8_sum_3)) gq_X8_sum_4) gq_X8_sum_5) gq_X8_sum_6)
set_option maxRecDepth 20000 in
theorem gL_law_X8_sum : GoodIn wsL_law (wsV RL 70 RX8 yX8_sum wsX8_sum) := goodIn_app (goodIn_of _ (by decide +kernel)) ggL_law_X8_sum

set_option maxRecDepth 20000 in
theorem gq_X9_sum_0 : GoodIn wsL_law [.code yX9_sum cX9_sum 2 (some .int)] := goodIn_r _ [771] (by decide +kernel) (by decide +kernel)
set_option maxRecDepth 20000 in
theorem gq_X9_sum_1 : GoodIn wsL_law ([.fieldLink RX9 113 "BranchPlayModel" "played" "I", .fieldLink RX9 89 "BranchPlayModel" "mostWaiting" "[I", .methodLink RX9 185 yX9_in, .static yX9_in, .initialized RX9, .code yX9_in cX9_in 3 (some .boolean), .methodLink RX9 271 yX9_sumOf, .instanceMethod yX9_sumOf, .selects RX9 yX9_sumOf yX9_sumOf, .code yX9_sumOf cX9_sumOf 7 (some .int), .fieldLink RX9 192 "BranchPlayModel" "changes" "I", .fieldLink RX9 60 "BranchPlayModel" "out" "[I", .fieldLink RX9 45 "BranchPlayModel" "born" "[I", .fieldLink RX9 63 "BranchPlayModel" "met" "[I", .fieldLink RX9 66 "BranchPlayModel" "quarrels" "[I", .fieldLink RX9 69 "BranchPlayModel" "rework" "[I", .fieldLink RX9 27 "BranchPlayModel" "sizes" "[I", .fieldLink RX9 72 "BranchPlayModel" "held" "[I"] : List Cond) := goodIn_r _ [166, 158, 329, 330, 5, 331, 772, 773, 774, 775, 404, 149, 144, 150, 151, 152, 138, 153] (by decide +kernel) (by decide +kernel)
set_option maxRecDepth 20000 in
theorem gq_X9_sum_2 : GoodIn wsL_law wsX90 := goodIn_r _ [848, 849, 850, 851, 852, 853, 854, 855, 856, 857, 858, 859, 860, 861, 862, 863, 864, 865, 866, 867, 868, 869, 870, 871, 872, 873, 874, 875, 876, 877, 878, 879, 880, 881, 882, 883, 884, 885, 886, 887, 888, 889, 890, 891] (by decide +kernel) (by decide +kernel)
theorem ggL_law_X9_sum : GoodIn wsL_law wsX9_sum := goodIn_app gq_X9_sum_0 (goodIn_app gq_X9_sum_1 gq_X9_sum_2)
set_option maxRecDepth 20000 in
theorem gL_law_X9_sum : GoodIn wsL_law (wsV RL 73 RX9 yX9_sum wsX9_sum) := goodIn_app (goodIn_of _ (by decide +kernel)) ggL_law_X9_sum

set_option maxRecDepth 20000 in
theorem gq_X8_parts_0 : GoodIn wsL_law [.code yX8_parts cX8_parts 4 (some .int)] := goodIn_r _ [779] (by decide +kernel) (by decide +kernel)
set_option maxRecDepth 20000 in
theorem gq_X8_parts_1 : GoodIn wsL_law wsX8_parts_r1 := goodIn_r _ [39, 21, 40, 780, 781, 198, 199, 2, 200, 476, 477, 478, 37, 479, 88, 480, 24, 25, 26, 782, 486, 487, 488, 89] (by decide +kernel) (by decide +kernel)
set_option maxRecDepth 20000 in
theorem gq_X8_parts_2 : GoodIn wsL_law wsX8_parts_r2 := goodIn_r _ [90, 97, 98, 99, 95, 489, 100, 101, 105, 490, 106, 107, 108, 109, 110, 111, 112, 113, 491, 492, 493, 494, 495, 496] (by decide +kernel) (by decide +kernel)
set_option maxRecDepth 20000 in
theorem gq_X8_parts_3 : GoodIn wsL_law wsX8_parts_r3 := goodIn_r _ [497, 71, 498, 76, 499, 500, 501, 783, 503, 504, 505, 114, 506, 507, 508, 509, 510, 511, 512, 513, 514, 515, 516, 517] (by decide +kernel) (by decide +kernel)
set_option maxRecDepth 20000 in
theorem gq_X8_parts_4 : GoodIn wsL_law wsX8_parts_r4 := goodIn_r _ [420, 421, 518, 519, 520, 521, 522, 523, 524, 525, 426, 427, 526, 527, 528, 529, 530, 531, 532, 533, 534, 535, 536, 537] (by decide +kernel) (by decide +kernel)
set_option maxRecDepth 20000 in
theorem gq_X8_parts_5 : GoodIn wsL_law wsX8_parts_r5 := goodIn_r _ [104, 538, 128, 123, 125, 126, 127, 539, 540, 541, 542, 543, 396, 397, 398, 544, 545, 546, 547, 548, 549, 550, 551, 552] (by decide +kernel) (by decide +kernel)
set_option maxRecDepth 20000 in
theorem gq_X8_parts_6 : GoodIn wsL_law wsX8_parts_r6 := goodIn_r _ [553, 554, 555, 556, 557, 558, 559, 560, 561, 91, 562, 563, 564, 565, 566, 567, 568, 569, 570, 571, 572, 573, 574, 94] (by decide +kernel) (by decide +kernel)
set_option maxRecDepth 20000 in
theorem gq_X8_parts_7 : GoodIn wsL_law wsX8_parts_r7 := goodIn_r _ [575, 119, 118, 576, 577, 578, 579, 580, 581, 582, 583, 584, 585, 586, 587, 588, 589, 590, 591, 592, 593, 594, 595, 596] (by decide +kernel) (by decide +kernel)
set_option maxRecDepth 20000 in
theorem gq_X8_parts_8 : GoodIn wsL_law wsX8_parts_r8 := goodIn_r _ [597, 598, 599, 600, 601, 602, 603, 604] (by decide +kernel) (by decide +kernel)
set_option maxRecDepth 20000 in
theorem gq_X8_parts_9 : GoodIn wsL_law wsX80 := goodIn_r _ [839, 840, 841, 842, 843, 844, 845, 846, 847] (by decide +kernel) (by decide +kernel)
set_option maxRecDepth 20000 in
theorem gq_X8_parts_10 : GoodIn wsL_law wsX40 := goodIn_r _ [917, 918, 919, 920, 921, 922, 923, 924, 925, 926, 927, 928, 929, 930, 931, 932, 933, 934, 935, 936] (by decide +kernel) (by decide +kernel)
set_option maxRecDepth 20000 in
theorem gq_X8_parts_11 : GoodIn wsL_law wsX20 := goodIn_r _ [938, 939] (by decide +kernel) (by decide +kernel)
set_option maxRecDepth 20000 in
theorem gq_X8_parts_12 : GoodIn wsL_law wsX30 := goodIn_r _ [940, 941, 942, 943, 944] (by decide +kernel) (by decide +kernel)
set_option maxRecDepth 20000 in
theorem gq_X8_parts_13 : GoodIn wsL_law wsX00 := goodIn_r _ [937] (by decide +kernel) (by decide +kernel)
set_option maxRecDepth 20000 in
theorem gq_X8_parts_14 : GoodIn wsL_law wsX10 := goodIn_r _ [901, 902, 903, 904, 905, 906, 907, 908, 909, 910, 911, 912] (by decide +kernel) (by decide +kernel)
theorem ggL_law_X8_parts : GoodIn wsL_law wsX8_parts := goodIn_app gq_X8_parts_0 (goodIn_app (goodIn_app (goodIn_app (goodIn_app (goodIn_app (goodIn_app (goodIn_app gq_X8_parts_1 (goodIn_app gq_X8_parts_2 (goodIn_app gq_X8_parts_3 (goodIn_app gq_X8_parts_4 (goodIn_app gq_X8_parts_5 (goodIn_app gq_X8_parts_6 (goodIn_app gq_X8_parts_7 gq_X8_parts_8))))))) gq_X8_parts_9) gq_X8_parts_10) gq_X8_parts_11) gq_X8_parts_12) gq_X8_parts_13) gq_X8_parts_14)
set_option maxRecDepth 20000 in
theorem gL_law_X8_parts : GoodIn wsL_law (wsV RL 74 RX8 yX8_parts wsX8_parts) := goodIn_app (goodIn_of _ (by decide +kernel)) ggL_law_X8_parts

set_option maxRecDepth 20000 in
theorem gq_X9_parts_0 : GoodIn wsL_law [.code yX9_parts cX9_parts 4 (some .int)] := goodIn_r _ [787] (by decide +kernel) (by decide +kernel)
set_option maxRecDepth 20000 in
theorem gq_X9_parts_1 : GoodIn wsL_law wsX9_parts_r1 := goodIn_r _ [155, 329, 330, 5, 331, 613, 614, 615, 616, 164, 144, 147, 149, 150, 151, 152, 153, 154, 156, 157, 158, 159, 617, 618] (by decide +kernel) (by decide +kernel)
set_option maxRecDepth 20000 in
theorem gq_X9_parts_2 : GoodIn wsL_law wsX9_parts_r2 := goodIn_r _ [619, 620, 404, 621, 622, 623, 624, 135, 625, 626, 627, 628, 629, 630, 631, 632, 633, 634, 635, 143, 142, 636, 637, 638] (by decide +kernel) (by decide +kernel)
set_option maxRecDepth 20000 in
theorem gq_X9_parts_3 : GoodIn wsL_law wsX9_parts_r3 := goodIn_r _ [639, 160, 161, 162, 163, 640, 641, 642, 643, 140, 644, 645, 646, 647, 139, 141, 648, 649, 650, 651, 136, 652, 653, 654] (by decide +kernel) (by decide +kernel)
set_option maxRecDepth 20000 in
theorem gq_X9_parts_4 : GoodIn wsL_law wsX9_parts_r4 := goodIn_r _ [655, 145, 138, 146, 656, 657, 658, 659, 165, 660, 661, 662, 663, 664, 665, 666, 667, 668, 669, 670, 671, 672, 673, 674] (by decide +kernel) (by decide +kernel)
set_option maxRecDepth 20000 in
theorem gq_X9_parts_5 : GoodIn wsL_law wsX9_parts_r5 := goodIn_r _ [675, 676, 677, 678, 679, 148, 137, 680, 681, 682, 683, 684, 685, 686, 687] (by decide +kernel) (by decide +kernel)
set_option maxRecDepth 20000 in
theorem gq_X9_parts_6 : GoodIn wsL_law wsX90 := goodIn_r _ [848, 849, 850, 851, 852, 853, 854, 855, 856, 857, 858, 859, 860, 861, 862, 863, 864, 865, 866, 867, 868, 869, 870, 871, 872, 873, 874, 875, 876, 877, 878, 879, 880, 881, 882, 883, 884, 885, 886, 887, 888, 889, 890, 891] (by decide +kernel) (by decide +kernel)
theorem ggL_law_X9_parts : GoodIn wsL_law wsX9_parts := goodIn_app gq_X9_parts_0 (goodIn_app (goodIn_app gq_X9_parts_1 (goodIn_app gq_X9_parts_2 (goodIn_app gq_X9_parts_3 (goodIn_app gq_X9_parts_4 gq_X9_parts_5)))) gq_X9_parts_6)
set_option maxRecDepth 20000 in
theorem gL_law_X9_parts : GoodIn wsL_law (wsV RL 77 RX9 yX9_parts wsX9_parts) := goodIn_app (goodIn_of _ (by decide +kernel)) ggL_law_X9_parts
