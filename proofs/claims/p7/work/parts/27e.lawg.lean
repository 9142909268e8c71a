set_option maxRecDepth 20000 in
theorem gq_X8_prices_0 : GoodIn wsL_law [.code yX8_prices cX8_prices 5 (some .int)] := goodIn_r _ [791] (by decide +kernel) (by decide +kernel)
set_option maxRecDepth 20000 in
theorem gq_X8_prices_1 : GoodIn wsL_law ([.fieldLink RX8 46 "BranchPlay" "priceList" "LBranchPlay$Prices;", .fieldLink RX8 171 "BranchPlay$Prices" "wait" "I", .fieldLink RX8 174 "BranchPlay$Prices" "met" "I", .fieldLink RX8 177 "BranchPlay$Prices" "hour" "I", .fieldLink RX8 180 "BranchPlay$Prices" "never" "I", .methodLink RX8 168 yX8_isPrice, .static yX8_isPrice, .initialized RX8, .code yX8_isPrice cX8_isPrice 1 (some .boolean)] : List Cond) := goodIn_r _ [34, 792, 793, 794, 795, 796, 797, 2, 798] (by decide +kernel) (by decide +kernel)
set_option maxRecDepth 20000 in
theorem gq_X8_prices_2 : GoodIn wsL_law wsX80 := goodIn_r _ [839, 840, 841, 842, 843, 844, 845, 846, 847] (by decide +kernel) (by decide +kernel)
set_option maxRecDepth 20000 in
theorem gq_X8_prices_3 : GoodIn wsL_law wsX50 := goodIn_r _ [913, 914, 915, 916] (by decide +kernel) (by decide +kernel)
theorem ggL_law_X8_prices : GoodIn wsL_law wsX8_prices := goodIn_app gq_X8_prices_0 (goodIn_app (goodIn_app gq_X8_prices_1 gq_X8_prices_2) gq_X8_prices_3)
set_option maxRecDepth 20000 in
theorem gL_law_X8_prices : GoodIn wsL_law (wsV RL 78 RX8 yX8_prices wsX8_prices) := goodIn_app (goodIn_of _ (by decide +kernel)) ggL_law_X8_prices

set_option maxRecDepth 20000 in
theorem gq_X9_prices_0 : GoodIn wsL_law [.code yX9_prices cX9_prices 5 (some .int)] := goodIn_r _ [802] (by decide +kernel) (by decide +kernel)
set_option maxRecDepth 20000 in
theorem gq_X9_prices_1 : GoodIn wsL_law ([.fieldLink RX9 116 "BranchPlayModel" "price" "[I", .methodLink RX9 185 yX9_in, .static yX9_in, .initialized RX9, .code yX9_in cX9_in 3 (some .boolean)] : List Cond) := goodIn_r _ [167, 329, 330, 5, 331] (by decide +kernel) (by decide +kernel)
set_option maxRecDepth 20000 in
theorem gq_X9_prices_2 : GoodIn wsL_law wsX90 := goodIn_r _ [848, 849, 850, 851, 852, 853, 854, 855, 856, 857, 858, 859, 860, 861, 862, 863, 864, 865, 866, 867, 868, 869, 870, 871, 872, 873, 874, 875, 876, 877, 878, 879, 880, 881, 882, 883, 884, 885, 886, 887, 888, 889, 890, 891] (by decide +kernel) (by decide +kernel)
theorem ggL_law_X9_prices : GoodIn wsL_law wsX9_prices := goodIn_app gq_X9_prices_0 (goodIn_app gq_X9_prices_1 gq_X9_prices_2)
set_option maxRecDepth 20000 in
theorem gL_law_X9_prices : GoodIn wsL_law (wsV RL 81 RX9 yX9_prices wsX9_prices) := goodIn_app (goodIn_of _ (by decide +kernel)) ggL_law_X9_prices

set_option maxRecDepth 20000 in
theorem gq_X8_costs_0 : GoodIn wsL_law [.code yX8_costs cX8_costs 2 (some .int)] := goodIn_r _ [806] (by decide +kernel) (by decide +kernel)
set_option maxRecDepth 20000 in
theorem gq_X8_costs_1 : GoodIn wsL_law wsX8_costs_r1 := goodIn_r _ [39, 21, 34, 198, 199, 2, 200, 476, 477, 478, 37, 479, 88, 480, 24, 25, 26, 481, 482, 483, 484, 485, 486, 487] (by decide +kernel) (by decide +kernel)
set_option maxRecDepth 20000 in
theorem gq_X8_costs_2 : GoodIn wsL_law wsX8_costs_r2 := goodIn_r _ [488, 89, 90, 97, 98, 99, 95, 489, 100, 101, 105, 490, 106, 107, 108, 109, 110, 111, 112, 113, 491, 492, 493, 494] (by decide +kernel) (by decide +kernel)
set_option maxRecDepth 20000 in
theorem gq_X8_costs_3 : GoodIn wsL_law wsX8_costs_r3 := goodIn_r _ [495, 496, 497, 71, 498, 76, 499, 500, 501, 502, 503, 504, 505, 114, 506, 507, 508, 509, 510, 511, 512, 513, 514, 515] (by decide +kernel) (by decide +kernel)
set_option maxRecDepth 20000 in
theorem gq_X8_costs_4 : GoodIn wsL_law wsX8_costs_r4 := goodIn_r _ [516, 517, 420, 421, 518, 519, 520, 521, 522, 523, 524, 525, 426, 427, 526, 527, 528, 529, 530, 531, 532, 533, 534, 535] (by decide +kernel) (by decide +kernel)
set_option maxRecDepth 20000 in
theorem gq_X8_costs_5 : GoodIn wsL_law wsX8_costs_r5 := goodIn_r _ [536, 537, 104, 538, 128, 123, 125, 126, 127, 539, 540, 541, 542, 543, 396, 397, 398, 544, 545, 546, 547, 548, 549, 550] (by decide +kernel) (by decide +kernel)
set_option maxRecDepth 20000 in
theorem gq_X8_costs_6 : GoodIn wsL_law wsX8_costs_r6 := goodIn_r _ [551, 552, 553, 554, 555, 556, 557, 558, 559, 560, 561, 91, 562, 563, 564, 565, 566, 567, 568, 569, 570, 571, 572, 573] (by decide +kernel) (by decide +kernel)
set_option maxRecDepth 20000 in
theorem gq_X8_costs_7 : GoodIn wsL_law wsX8_costs_r7 := goodIn_r _ [574, 94, 575, 119, 118, 576, 577, 578, 579, 580, 581, 582, 583, 584, 585, 586, 587, 588, 589, 590, 591, 592, 593, 594] (by decide +kernel) (by decide +kernel)
set_option maxRecDepth 20000 in
theorem gq_X8_costs_8 : GoodIn wsL_law wsX8_costs_r8 := goodIn_r _ [595, 596, 597, 598, 599, 600, 601, 602, 603, 604, 807, 808, 809, 33, 810, 80, 81, 82, 83, 811, 740, 741, 742, 743] (by decide +kernel) (by decide +kernel)
set_option maxRecDepth 20000 in
theorem gq_X8_costs_9 : GoodIn wsL_law wsX8_costs_r9 := goodIn_r _ [744, 745, 746, 747, 748, 749, 750, 751, 752, 753, 754, 755, 710, 711, 712, 713, 714, 715, 756, 757, 758, 759, 760, 761] (by decide +kernel) (by decide +kernel)
set_option maxRecDepth 20000 in
theorem gq_X8_costs_10 : GoodIn wsL_law wsX8_costs_r10 := goodIn_r _ [762, 763, 764, 765, 766, 767] (by decide +kernel) (by decide +kernel)
set_option maxRecDepth 20000 in
theorem gq_X8_costs_11 : GoodIn wsL_law wsX80 := goodIn_r _ [839, 840, 841, 842, 843, 844, 845, 846, 847] (by decide +kernel) (by decide +kernel)
set_option maxRecDepth 20000 in
theorem gq_X8_costs_12 : GoodIn wsL_law wsX40 := goodIn_r _ [917, 918, 919, 920, 921, 922, 923, 924, 925, 926, 927, 928, 929, 930, 931, 932, 933, 934, 935, 936] (by decide +kernel) (by decide +kernel)
set_option maxRecDepth 20000 in
theorem gq_X8_costs_13 : GoodIn wsL_law wsX20 := goodIn_r _ [938, 939] (by decide +kernel) (by decide +kernel)
set_option maxRecDepth 20000 in
theorem gq_X8_costs_14 : GoodIn wsL_law wsX30 := goodIn_r _ [940, 941, 942, 943, 944] (by decide +kernel) (by decide +kernel)
set_option maxRecDepth 20000 in
theorem gq_X8_costs_15 : GoodIn wsL_law wsX00 := goodIn_r _ [937] (by decide +kernel) (by decide +kernel)
set_option maxRecDepth 20000 in
theorem gq_X8_costs_16 : GoodIn wsL_law wsX10 := goodIn_r _ [901, 902, 903, 904, 905, 906, 907, 908, 909, 910, 911, 912] (by decide +kernel) (by decide +kernel)
set_option maxRecDepth 20000 in
theorem gq_X8_costs_17 : GoodIn wsL_law wsX50 := goodIn_r _ [913, 914, 915, 916] (by decide +kernel) (by decide +kernel)
theorem ggL_law_X8_costs : GoodIn wsL_law wsX8_costs := goodIn_app gq_X8_costs_0 (goodIn_app (goodIn_app (goodIn_app (goodIn_app (goodIn_app (goodIn_app (goodIn_app (goodIn_app gq_X8_costs_1 (goodIn_app gq_X8_costs_2 (goodIn_app gq_X8_costs_3 (goodIn_app gq_X8_costs_4 (goodIn_app gq_X8_costs_5 (goodIn_app gq_X8_costs_6 (goodIn_app gq_X8_costs_7 (goodIn_app gq_X8_costs_8 (goodIn_app gq_X8_costs_9 gq_X8_costs_10))))))))) gq_X8_costs_11) gq_X8_costs_12) gq_X8_costs_13) gq_X8_costs_14) gq_X8_costs_15) gq_X8_costs_16) gq_X8_costs_17)
set_option maxRecDepth 20000 in
theorem gL_law_X8_costs : GoodIn wsL_law (wsV RL 82 RX8 yX8_costs wsX8_costs) := goodIn_app (goodIn_of _ (by decide +kernel)) ggL_law_X8_costs

set_option maxRecDepth 20000 in
theorem gq_X9_costs_0 : GoodIn wsL_law [.code yX9_costs cX9_costs 2 (some .int)] := goodIn_r _ [815] (by decide +kernel) (by decide +kernel)
set_option maxRecDepth 20000 in
theorem gq_X9_costs_1 : GoodIn wsL_law wsX9_costs_r1 := goodIn_r _ [329, 330, 5, 331, 816, 817, 818, 819, 167, 609, 610, 611, 612, 613, 614, 615, 616, 164, 144, 147, 149, 150, 151, 152] (by decide +kernel) (by decide +kernel)
set_option maxRecDepth 20000 in
theorem gq_X9_costs_2 : GoodIn wsL_law wsX9_costs_r2 := goodIn_r _ [153, 154, 155, 156, 157, 158, 159, 617, 618, 619, 620, 404, 621, 622, 623, 624, 135, 625, 626, 627, 628, 629, 630, 631] (by decide +kernel) (by decide +kernel)
set_option maxRecDepth 20000 in
theorem gq_X9_costs_3 : GoodIn wsL_law wsX9_costs_r3 := goodIn_r _ [632, 633, 634, 635, 143, 142, 636, 637, 638, 639, 160, 161, 162, 163, 640, 641, 642, 643, 140, 644, 645, 646, 647, 139] (by decide +kernel) (by decide +kernel)
set_option maxRecDepth 20000 in
theorem gq_X9_costs_4 : GoodIn wsL_law wsX9_costs_r4 := goodIn_r _ [141, 648, 649, 650, 651, 136, 652, 653, 654, 655, 145, 138, 146, 656, 657, 658, 659, 165, 660, 661, 662, 663, 664, 665] (by decide +kernel) (by decide +kernel)
set_option maxRecDepth 20000 in
theorem gq_X9_costs_5 : GoodIn wsL_law wsX9_costs_r5 := goodIn_r _ [666, 667, 668, 669, 670, 671, 672, 673, 674, 675, 676, 677, 678, 679, 148, 137, 680, 681, 682, 683, 684, 685, 686, 687] (by decide +kernel) (by decide +kernel)
set_option maxRecDepth 20000 in
theorem gq_X9_costs_6 : GoodIn wsL_law wsX9_costs_r6 := goodIn_r _ [772, 773, 774, 775] (by decide +kernel) (by decide +kernel)
set_option maxRecDepth 20000 in
theorem gq_X9_costs_7 : GoodIn wsL_law wsX90 := goodIn_r _ [848, 849, 850, 851, 852, 853, 854, 855, 856, 857, 858, 859, 860, 861, 862, 863, 864, 865, 866, 867, 868, 869, 870, 871, 872, 873, 874, 875, 876, 877, 878, 879, 880, 881, 882, 883, 884, 885, 886, 887, 888, 889, 890, 891] (by decide +kernel) (by decide +kernel)
theorem ggL_law_X9_costs : GoodIn wsL_law wsX9_costs := goodIn_app gq_X9_costs_0 (goodIn_app (goodIn_app gq_X9_costs_1 (goodIn_app gq_X9_costs_2 (goodIn_app gq_X9_costs_3 (goodIn_app gq_X9_costs_4 (goodIn_app gq_X9_costs_5 gq_X9_costs_6))))) gq_X9_costs_7)
set_option maxRecDepth 20000 in
theorem gL_law_X9_costs : GoodIn wsL_law (wsV RL 85 RX9 yX9_costs wsX9_costs) := goodIn_app (goodIn_of _ (by decide +kernel)) ggL_law_X9_costs

set_option maxRecDepth 20000 in
theorem gq_X8_best_0 : GoodIn wsL_law [.code yX8_best cX8_best 9 (some .int)] := goodIn_r _ [823] (by decide +kernel) (by decide +kernel)
set_option maxRecDepth 20000 in
theorem gq_X8_best_1 : GoodIn wsL_law wsX8_best_r1 := goodIn_r _ [39, 21, 824, 34, 198, 199, 2, 200, 825, 300, 301, 302, 303, 476, 477, 478, 37, 479, 88, 480, 24, 25, 26, 481] (by decide +kernel) (by decide +kernel)
set_option maxRecDepth 20000 in
theorem gq_X8_best_2 : GoodIn wsL_law wsX8_best_r2 := goodIn_r _ [482, 483, 484, 485, 486, 487, 488, 89, 90, 97, 98, 99, 95, 489, 100, 101, 105, 490, 106, 107, 108, 109, 110, 111] (by decide +kernel) (by decide +kernel)
set_option maxRecDepth 20000 in
theorem gq_X8_best_3 : GoodIn wsL_law wsX8_best_r3 := goodIn_r _ [112, 113, 491, 492, 493, 494, 495, 496, 497, 71, 498, 76, 499, 500, 501, 502, 503, 504, 505, 114, 506, 507, 508, 509] (by decide +kernel) (by decide +kernel)
set_option maxRecDepth 20000 in
theorem gq_X8_best_4 : GoodIn wsL_law wsX8_best_r4 := goodIn_r _ [510, 511, 512, 513, 514, 515, 516, 517, 420, 421, 518, 519, 520, 521, 522, 523, 524, 525, 426, 427, 526, 527, 528, 529] (by decide +kernel) (by decide +kernel)
set_option maxRecDepth 20000 in
theorem gq_X8_best_5 : GoodIn wsL_law wsX8_best_r5 := goodIn_r _ [530, 531, 532, 533, 534, 535, 536, 537, 104, 538, 128, 123, 125, 126, 127, 539, 540, 541, 542, 543, 396, 397, 398, 544] (by decide +kernel) (by decide +kernel)
set_option maxRecDepth 20000 in
theorem gq_X8_best_6 : GoodIn wsL_law wsX8_best_r6 := goodIn_r _ [545, 546, 547, 548, 549, 550, 551, 552, 553, 554, 555, 556, 557, 558, 559, 560, 561, 91, 562, 563, 564, 565, 566, 567] (by decide +kernel) (by decide +kernel)
set_option maxRecDepth 20000 in
theorem gq_X8_best_7 : GoodIn wsL_law wsX8_best_r7 := goodIn_r _ [568, 569, 570, 571, 572, 573, 574, 94, 575, 119, 118, 576, 577, 578, 579, 580, 581, 582, 583, 584, 585, 586, 587, 588] (by decide +kernel) (by decide +kernel)
set_option maxRecDepth 20000 in
theorem gq_X8_best_8 : GoodIn wsL_law wsX8_best_r8 := goodIn_r _ [589, 590, 591, 592, 593, 594, 595, 596, 597, 598, 599, 600, 601, 602, 603, 604, 807, 808, 809, 33, 810, 80, 81, 82] (by decide +kernel) (by decide +kernel)
set_option maxRecDepth 20000 in
theorem gq_X8_best_9 : GoodIn wsL_law wsX8_best_r9 := goodIn_r _ [83, 811, 740, 741, 742, 743, 744, 745, 746, 747, 748, 749, 750, 751, 752, 753, 754, 755, 710, 711, 712, 713, 714, 715] (by decide +kernel) (by decide +kernel)
set_option maxRecDepth 20000 in
theorem gq_X8_best_10 : GoodIn wsL_law wsX8_best_r10 := goodIn_r _ [756, 757, 758, 759, 760, 761, 762, 763, 764, 765, 766, 767] (by decide +kernel) (by decide +kernel)
set_option maxRecDepth 20000 in
theorem gq_X8_best_11 : GoodIn wsL_law wsX80 := goodIn_r _ [839, 840, 841, 842, 843, 844, 845, 846, 847] (by decide +kernel) (by decide +kernel)
set_option maxRecDepth 20000 in
theorem gq_X8_best_12 : GoodIn wsL_law wsX40 := goodIn_r _ [917, 918, 919, 920, 921, 922, 923, 924, 925, 926, 927, 928, 929, 930, 931, 932, 933, 934, 935, 936] (by decide +kernel) (by decide +kernel)
set_option maxRecDepth 20000 in
theorem gq_X8_best_13 : GoodIn wsL_law wsX20 := goodIn_r _ [938, 939] (by decide +kernel) (by decide +kernel)
set_option maxRecDepth 20000 in
theorem gq_X8_best_14 : GoodIn wsL_law wsX30 := goodIn_r _ [940, 941, 942, 943, 944] (by decide +kernel) (by decide +kernel)
set_option maxRecDepth 20000 in
theorem gq_X8_best_15 : GoodIn wsL_law wsX00 := goodIn_r _ [937] (by decide +kernel) (by decide +kernel)
set_option maxRecDepth 20000 in
theorem gq_X8_best_16 : GoodIn wsL_law wsX10 := goodIn_r _ [901, 902, 903, 904, 905, 906, 907, 908, 909, 910, 911, 912] (by decide +kernel) (by decide +kernel)
set_option maxRecDepth 20000 in
theorem gq_X8_best_17 : GoodIn wsL_law wsX50 := goodIn_r _ [913, 914, 915, 916] (by decide +kernel) (by decide +kernel)
theorem ggL_law_X8_best : GoodIn wsL_law wsX8_best := goodIn_app gq_X8_best_0 (goodIn_app (goodIn_app (goodIn_app (goodIn_app (goodIn_app (goodIn_app (goodIn_app (goodIn_app gq_X8_best_1 (goodIn_app gq_X8_best_2 (goodIn_app gq_X8_best_3 (goodIn_app gq_X8_best_4 (goodIn_app gq_X8_best_5 (goodIn_app gq_X8_best_6 (goodIn_app gq_X8_best_7 (goodIn_app gq_X8_best_8 (goodIn_app gq_X8_best_9 gq_X8_best_10))))))))) gq_X8_best_11) gq_X8_best_12) gq_X8_best_13) gq_X8_best_14) gq_X8_best_15) gq_X8_best_16) gq_X8_best_17)
set_option maxRecDepth 20000 in
theorem gL_law_X8_best : GoodIn wsL_law (wsV RL 86 RX8 yX8_best wsX8_best) := goodIn_app (goodIn_of _ (by decide +kernel)) ggL_law_X8_best

set_option maxRecDepth 20000 in
theorem gq_X9_best_0 : GoodIn wsL_law [.code yX9_best cX9_best 9 (some .int)] := goodIn_r _ [829] (by decide +kernel) (by decide +kernel)
set_option maxRecDepth 20000 in
theorem gq_X9_best_1 : GoodIn wsL_law wsX9_best_r1 := goodIn_r _ [135, 329, 330, 5, 331, 362, 363, 364, 365, 366, 367, 816, 817, 818, 819, 167, 609, 610, 611, 612, 613, 614, 615, 616] (by decide +kernel) (by decide +kernel)
set_option maxRecDepth 20000 in
theorem gq_X9_best_2 : GoodIn wsL_law wsX9_best_r2 := goodIn_r _ [164, 144, 147, 149, 150, 151, 152, 153, 154, 155, 156, 157, 158, 159, 617, 618, 619, 620, 404, 621, 622, 623, 624, 625] (by decide +kernel) (by decide +kernel)
set_option maxRecDepth 20000 in
theorem gq_X9_best_3 : GoodIn wsL_law wsX9_best_r3 := goodIn_r _ [626, 627, 628, 629, 630, 631, 632, 633, 634, 635, 143, 142, 636, 637, 638, 639, 160, 161, 162, 163, 640, 641, 642, 643] (by decide +kernel) (by decide +kernel)
set_option maxRecDepth 20000 in
theorem gq_X9_best_4 : GoodIn wsL_law wsX9_best_r4 := goodIn_r _ [140, 644, 645, 646, 647, 139, 141, 648, 649, 650, 651, 136, 652, 653, 654, 655, 145, 138, 146, 656, 657, 658, 659, 165] (by decide +kernel) (by decide +kernel)
set_option maxRecDepth 20000 in
theorem gq_X9_best_5 : GoodIn wsL_law wsX9_best_r5 := goodIn_r _ [660, 661, 662, 663, 664, 665, 666, 667, 668, 669, 670, 671, 672, 673, 674, 675, 676, 677, 678, 679, 148, 137, 680, 681] (by decide +kernel) (by decide +kernel)
set_option maxRecDepth 20000 in
theorem gq_X9_best_6 : GoodIn wsL_law wsX9_best_r6 := goodIn_r _ [682, 683, 684, 685, 686, 687, 772, 773, 774, 775] (by decide +kernel) (by decide +kernel)
set_option maxRecDepth 20000 in
theorem gq_X9_best_7 : GoodIn wsL_law wsX90 := goodIn_r _ [848, 849, 850, 851, 852, 853, 854, 855, 856, 857, 858, 859, 860, 861, 862, 863, 864, 865, 866, 867, 868, 869, 870, 871, 872, 873, 874, 875, 876, 877, 878, 879, 880, 881, 882, 883, 884, 885, 886, 887, 888, 889, 890, 891] (by decide +kernel) (by decide +kernel)
theorem ggL_law_X9_best : GoodIn wsL_law wsX9_best := goodIn_app gq_X9_best_0 (goodIn_app (goodIn_app gq_X9_best_1 (goodIn_app gq_X9_best_2 (goodIn_app gq_X9_best_3 (goodIn_app gq_X9_best_4 (goodIn_app gq_X9_best_5 gq_X9_best_6))))) gq_X9_best_7)
set_option maxRecDepth 20000 in
theorem gL_law_X9_best : GoodIn wsL_law (wsV RL 89 RX9 yX9_best wsX9_best) := goodIn_app (goodIn_of _ (by decide +kernel)) ggL_law_X9_best

set_option maxRecDepth 20000 in
theorem gq_X8_count_0 : GoodIn wsL_law [.code yX8_count cX8_count 2 (some .int)] := goodIn_r _ [833] (by decide +kernel) (by decide +kernel)
set_option maxRecDepth 20000 in
theorem gq_X8_count_1 : GoodIn wsL_law ([.fieldLink RX8 39 "BranchPlay" "changes" "LBranchPlay$Changes;", .fieldLink RX8 191 "BranchPlay$Changes" "count" "I", .fieldLink RX8 10 "BranchPlay" "tape" "LBranchPlay$Tape;", .fieldLink RX8 69 "BranchPlay$Tape" "length" "I", .fieldLink RX8 65 "BranchPlay" "playedWay" "I"] : List Cond) := goodIn_r _ [30, 834, 15, 175, 41] (by decide +kernel) (by decide +kernel)
set_option maxRecDepth 20000 in
theorem gq_X8_count_2 : GoodIn wsL_law wsX80 := goodIn_r _ [839, 840, 841, 842, 843, 844, 845, 846, 847] (by decide +kernel) (by decide +kernel)
set_option maxRecDepth 20000 in
theorem gq_X8_count_3 : GoodIn wsL_law wsX10 := goodIn_r _ [901, 902, 903, 904, 905, 906, 907, 908, 909, 910, 911, 912] (by decide +kernel) (by decide +kernel)
set_option maxRecDepth 20000 in
theorem gq_X8_count_4 : GoodIn wsL_law wsX70 := goodIn_r _ [892, 893] (by decide +kernel) (by decide +kernel)
theorem ggL_law_X8_count : GoodIn wsL_law wsX8_count := goodIn_app gq_X8_count_0 (goodIn_app (goodIn_app (goodIn_app gq_X8_count_1 gq_X8_count_2) gq_X8_count_3) gq_X8_count_4)
set_option maxRecDepth 20000 in
theorem gL_law_X8_count : GoodIn wsL_law (wsV RL 90 RX8 yX8_count wsX8_count) := goodIn_app (goodIn_of _ (by decide +kernel)) ggL_law_X8_count

set_option maxRecDepth 20000 in
theorem gq_X9_count_0 : GoodIn wsL_law [.code yX9_count cX9_count 2 (some .int)] := goodIn_r _ [838] (by decide +kernel) (by decide +kernel)
set_option maxRecDepth 20000 in
theorem gq_X9_count_1 : GoodIn wsL_law ([.fieldLink RX9 192 "BranchPlayModel" "changes" "I", .fieldLink RX9 123 "BranchPlayModel" "taped" "I", .fieldLink RX9 113 "BranchPlayModel" "played" "I"] : List Cond) := goodIn_r _ [404, 184, 166] (by decide +kernel) (by decide +kernel)
set_option maxRecDepth 20000 in
theorem gq_X9_count_2 : GoodIn wsL_law wsX90 := goodIn_r _ [848, 849, 850, 851, 852, 853, 854, 855, 856, 857, 858, 859, 860, 861, 862, 863, 864, 865, 866, 867, 868, 869, 870, 871, 872, 873, 874, 875, 876, 877, 878, 879, 880, 881, 882, 883, 884, 885, 886, 887, 888, 889, 890, 891] (by decide +kernel) (by decide +kernel)
theorem ggL_law_X9_count : GoodIn wsL_law wsX9_count := goodIn_app gq_X9_count_0 (goodIn_app gq_X9_count_1 gq_X9_count_2)
set_option maxRecDepth 20000 in
theorem gL_law_X9_count : GoodIn wsL_law (wsV RL 93 RX9 yX9_count wsX9_count) := goodIn_app (goodIn_of _ (by decide +kernel)) ggL_law_X9_count
