set_option maxRecDepth 20000 in
theorem ggL_law_X8_play : GoodIn wsL_law wsX8_play := goodIn_r _ [473, 38, 21, 41, 474, 475, 198, 199, 2, 200, 476, 477, 478, 37, 479, 88, 480, 24, 25, 26, 481, 482, 483, 484, 485, 486, 487, 488, 89, 90, 97, 98, 99, 95, 489, 100, 101, 105, 490, 106, 107, 108, 109, 110, 111, 112, 113, 491, 492, 493, 494, 495, 496, 497, 71, 498, 76, 499, 500, 501, 502, 503, 504, 505, 114, 506, 507, 508, 509, 510, 511, 512, 513, 514, 515, 516, 517, 420, 421, 518, 519, 520, 521, 522, 523, 524, 525, 426, 427, 526, 527, 528, 529, 530, 531, 532, 533, 534, 535, 536, 537, 104, 538, 128, 123, 125, 126, 127, 539, 540, 541, 542, 543, 396, 397, 398, 544, 545, 546, 547, 548, 549, 550, 551, 552, 553, 554, 555, 556, 557, 558, 559, 560, 561, 91, 562, 563, 564, 565, 566, 567, 568, 569, 570, 571, 572, 573, 574, 94, 575, 119, 118, 576, 577, 578, 579, 580, 581, 582, 583, 584, 585, 586, 587, 588, 589, 590, 591, 592, 593, 594, 595, 596, 597, 598, 599, 600, 601, 602, 603, 604, 839, 840, 841, 842, 843, 844, 845, 846, 847, 917, 918, 919, 920, 921, 922, 923, 924, 925, 926, 927, 928, 929, 930, 931, 932, 933, 934, 935, 936, 940, 941, 942, 943, 944, 938, 939, 937, 901, 902, 903, 904, 905, 906, 907, 908, 909, 910, 911, 912] (by decide +kernel) (by decide +kernel)
set_option maxRecDepth 20000 in
theorem gL_law_X8_play : GoodIn wsL_law (wsV RL 53 RX8 yX8_play wsX8_play) := goodIn_app (goodIn_of _ (by decide +kernel)) ggL_law_X8_play
set_option maxRecDepth 20000 in
theorem ggL_law_X9_play : GoodIn wsL_law wsX9_play := goodIn_r _ [608, 166, 159, 329, 330, 5, 331, 609, 610, 611, 612, 613, 614, 615, 616, 164, 144, 147, 149, 150, 151, 152, 153, 154, 155, 156, 157, 158, 617, 618, 619, 620, 404, 621, 622, 623, 624, 135, 625, 626, 627, 628, 629, 630, 631, 632, 633, 634, 635, 143, 142, 636, 637, 638, 639, 160, 161, 162, 163, 640, 641, 642, 643, 140, 644, 645, 646, 647, 139, 141, 648, 649, 650, 651, 136, 652, 653, 654, 655, 145, 138, 146, 656, 657, 658, 659, 165, 660, 661, 662, 663, 664, 665, 666, 667, 668, 669, 670, 671, 672, 673, 674, 675, 676, 677, 678, 679, 148, 137, 680, 681, 682, 683, 684, 685, 686, 687, 848, 849, 850, 851, 852, 853, 854, 855, 856, 857, 858, 859, 860, 861, 862, 863, 864, 865, 866, 867, 868, 869, 870, 871, 872, 873, 874, 875, 876, 877, 878, 879, 880, 881, 882, 883, 884, 885, 886, 887, 888, 889, 890, 891] (by decide +kernel) (by decide +kernel)
set_option maxRecDepth 20000 in
theorem gL_law_X9_play : GoodIn wsL_law (wsV RL 56 RX9 yX9_play wsX9_play) := goodIn_app (goodIn_of _ (by decide +kernel)) ggL_law_X9_play
set_option maxRecDepth 20000 in
theorem ggL_law_X8_told : GoodIn wsL_law wsX8_told := goodIn_r _ [691, 41, 30, 38, 457, 416, 417, 29, 418, 57, 692, 523, 524, 37, 525, 89, 90, 839, 840, 841, 842, 843, 844, 845, 846, 847, 901, 902, 903, 904, 905, 906, 907, 908, 909, 910, 911, 912, 917, 918, 919, 920, 921, 922, 923, 924, 925, 926, 927, 928, 929, 930, 931, 932, 933, 934, 935, 936] (by decide +kernel) (by decide +kernel)
set_option maxRecDepth 20000 in
theorem gL_law_X8_told : GoodIn wsL_law (wsV RL 57 RX8 yX8_told wsX8_told) := goodIn_app (goodIn_of _ (by decide +kernel)) ggL_law_X8_told
set_option maxRecDepth 20000 in
theorem ggL_law_X9_told : GoodIn wsL_law wsX9_told := goodIn_r _ [696, 166, 144, 147, 149, 150, 151, 152, 153, 432, 433, 434, 5, 435, 404, 329, 330, 331, 848, 849, 850, 851, 852, 853, 854, 855, 856, 857, 858, 859, 860, 861, 862, 863, 864, 865, 866, 867, 868, 869, 870, 871, 872, 873, 874, 875, 876, 877, 878, 879, 880, 881, 882, 883, 884, 885, 886, 887, 888, 889, 890, 891] (by decide +kernel) (by decide +kernel)
set_option maxRecDepth 20000 in
theorem gL_law_X9_told : GoodIn wsL_law (wsV RL 60 RX9 yX9_told wsX9_told) := goodIn_app (goodIn_of _ (by decide +kernel)) ggL_law_X9_told
set_option maxRecDepth 20000 in
theorem ggL_law_X8_release : GoodIn wsL_law wsX8_release := goodIn_r _ [700, 38, 474, 701, 702, 703, 2, 704, 41, 475, 705, 706, 707, 104, 708, 123, 125, 127, 126, 709, 710, 711, 712, 713, 714, 715, 839, 840, 841, 842, 843, 844, 845, 846, 847, 917, 918, 919, 920, 921, 922, 923, 924, 925, 926, 927, 928, 929, 930, 931, 932, 933, 934, 935, 936, 940, 941, 942, 943, 944] (by decide +kernel) (by decide +kernel)
set_option maxRecDepth 20000 in
theorem gL_law_X8_release : GoodIn wsL_law (wsV RL 61 RX8 yX8_release wsX8_release) := goodIn_app (goodIn_of _ (by decide +kernel)) ggL_law_X8_release
set_option maxRecDepth 20000 in
theorem ggL_law_X9_release : GoodIn wsL_law wsX9_release := goodIn_r _ [719, 404, 162, 160, 161, 163, 720, 721, 722, 5, 723, 166, 159, 329, 330, 331, 629, 630, 631, 848, 849, 850, 851, 852, 853, 854, 855, 856, 857, 858, 859, 860, 861, 862, 863, 864, 865, 866, 867, 868, 869, 870, 871, 872, 873, 874, 875, 876, 877, 878, 879, 880, 881, 882, 883, 884, 885, 886, 887, 888, 889, 890, 891] (by decide +kernel) (by decide +kernel)
set_option maxRecDepth 20000 in
theorem gL_law_X9_release : GoodIn wsL_law (wsV RL 64 RX9 yX9_release wsX9_release) := goodIn_app (goodIn_of _ (by decide +kernel)) ggL_law_X9_release
set_option maxRecDepth 20000 in
theorem ggL_law_X8_has : GoodIn wsL_law wsX8_has := goodIn_r _ [727, 38, 474, 728, 729, 701, 702, 703, 2, 704, 41, 475, 839, 840, 841, 842, 843, 844, 845, 846, 847, 917, 918, 919, 920, 921, 922, 923, 924, 925, 926, 927, 928, 929, 930, 931, 932, 933, 934, 935, 936, 940, 941, 942, 943, 944] (by decide +kernel) (by decide +kernel)
set_option maxRecDepth 20000 in
theorem gL_law_X8_has : GoodIn wsL_law (wsV RL 65 RX8 yX8_has wsX8_has) := goodIn_app (goodIn_of _ (by decide +kernel)) ggL_law_X8_has
set_option maxRecDepth 20000 in
theorem ggL_law_X9_has : GoodIn wsL_law wsX9_has := goodIn_r _ [733, 162, 734, 720, 721, 722, 5, 723, 166, 159, 329, 330, 331, 848, 849, 850, 851, 852, 853, 854, 855, 856, 857, 858, 859, 860, 861, 862, 863, 864, 865, 866, 867, 868, 869, 870, 871, 872, 873, 874, 875, 876, 877, 878, 879, 880, 881, 882, 883, 884, 885, 886, 887, 888, 889, 890, 891] (by decide +kernel) (by decide +kernel)
set_option maxRecDepth 20000 in
theorem gL_law_X9_has : GoodIn wsL_law (wsV RL 69 RX9 yX9_has wsX9_has) := goodIn_app (goodIn_of _ (by decide +kernel)) ggL_law_X9_has
set_option maxRecDepth 20000 in
theorem ggL_law_X8_sum : GoodIn wsL_law wsX8_sum := goodIn_r _ [738, 41, 38, 739, 740, 741, 37, 742, 112, 108, 113, 743, 744, 745, 746, 114, 515, 747, 748, 749, 750, 420, 2, 421, 522, 523, 524, 525, 89, 90, 751, 752, 753, 754, 507, 508, 509, 510, 755, 710, 711, 712, 713, 714, 715, 756, 757, 758, 759, 760, 761, 762, 763, 764, 765, 766, 767, 562, 839, 840, 841, 842, 843, 844, 845, 846, 847, 917, 918, 919, 920, 921, 922, 923, 924, 925, 926, 927, 928, 929, 930, 931, 932, 933, 934, 935, 936, 901, 902, 903, 904, 905, 906, 907, 908, 909, 910, 911, 912] (by decide +kernel) (by decide +kernel)
set_option maxRecDepth 20000 in
theorem gL_law_X8_sum : GoodIn wsL_law (wsV RL 70 RX8 yX8_sum wsX8_sum) := goodIn_app (goodIn_of _ (by decide +kernel)) ggL_law_X8_sum
set_option maxRecDepth 20000 in
theorem ggL_law_X9_sum : GoodIn wsL_law wsX9_sum := goodIn_r _ [771, 166, 158, 329, 330, 5, 331, 772, 773, 774, 775, 404, 149, 144, 150, 151, 152, 138, 153, 848, 849, 850, 851, 852, 853, 854, 855, 856, 857, 858, 859, 860, 861, 862, 863, 864, 865, 866, 867, 868, 869, 870, 871, 872, 873, 874, 875, 876, 877, 878, 879, 880, 881, 882, 883, 884, 885, 886, 887, 888, 889, 890, 891] (by decide +kernel) (by decide +kernel)
set_option maxRecDepth 20000 in
theorem gL_law_X9_sum : GoodIn wsL_law (wsV RL 73 RX9 yX9_sum wsX9_sum) := goodIn_app (goodIn_of _ (by decide +kernel)) ggL_law_X9_sum
