set_option maxRecDepth 20000 in
theorem gqb0 : GoodIn wsL_law [Cond.code yX9_best cX9_best 9 (some .int)] := goodIn_r _ [829] (by decide +kernel) (by decide +kernel)
set_option maxRecDepth 20000 in
theorem gqb1 : GoodIn wsL_law wsX9_best_r1 := goodIn_r _ [135, 329, 330, 5, 331, 362, 363, 364, 365, 366, 367, 816, 817, 818, 819, 167, 609, 610, 611, 612, 613, 614, 615, 616] (by decide +kernel) (by decide +kernel)
set_option maxRecDepth 20000 in
theorem gqb2 : GoodIn wsL_law wsX9_best_r2 := goodIn_r _ [164, 144, 147, 149, 150, 151, 152, 153, 154, 155, 156, 157, 158, 159, 617, 618, 619, 620, 404, 621, 622, 623, 624, 625] (by decide +kernel) (by decide +kernel)
set_option maxRecDepth 20000 in
theorem gqb3 : GoodIn wsL_law wsX9_best_r3 := goodIn_r _ [626, 627, 628, 629, 630, 631, 632, 633, 634, 635, 143, 142, 636, 637, 638, 639, 160, 161, 162, 163, 640, 641, 642, 643] (by decide +kernel) (by decide +kernel)
set_option maxRecDepth 20000 in
theorem gqb4 : GoodIn wsL_law wsX9_best_r4 := goodIn_r _ [140, 644, 645, 646, 647, 139, 141, 648, 649, 650, 651, 136, 652, 653, 654, 655, 145, 138, 146, 656, 657, 658, 659, 165] (by decide +kernel) (by decide +kernel)
set_option maxRecDepth 20000 in
theorem gqb5 : GoodIn wsL_law wsX9_best_r5 := goodIn_r _ [660, 661, 662, 663, 664, 665, 666, 667, 668, 669, 670, 671, 672, 673, 674, 675, 676, 677, 678, 679, 148, 137, 680, 681] (by decide +kernel) (by decide +kernel)
set_option maxRecDepth 20000 in
theorem gqb6 : GoodIn wsL_law wsX9_best_r6 := goodIn_r _ [682, 683, 684, 685, 686, 687, 772, 773, 774, 775] (by decide +kernel) (by decide +kernel)
set_option maxRecDepth 20000 in
theorem gqb7 : GoodIn wsL_law wsX90 := goodIn_r _ [848, 849, 850, 851, 852, 853, 854, 855, 856, 857, 858, 859, 860, 861, 862, 863, 864, 865, 866, 867, 868, 869, 870, 871, 872, 873, 874, 875, 876, 877, 878, 879, 880, 881, 882, 883, 884, 885, 886, 887, 888, 889, 890, 891] (by decide +kernel) (by decide +kernel)
theorem ggL_law_X9_best : GoodIn wsL_law wsX9_best := goodIn_app gqb0 (goodIn_app (goodIn_app gqb1 (goodIn_app gqb2 (goodIn_app gqb3 (goodIn_app gqb4 (goodIn_app gqb5 gqb6))))) gqb7)
set_option maxRecDepth 20000 in
theorem gL_law_X9_best : GoodIn wsL_law (wsV RL 89 RX9 yX9_best wsX9_best) := goodIn_app (goodIn_of _ (by decide +kernel)) ggL_law_X9_best
