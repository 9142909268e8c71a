set_option maxRecDepth 20000 in
theorem gq_X8_fix_0 : GoodIn wsL_law [.code yX8_fix cX8_fix 3 (some .int)] := goodIn_r _ [439] (by decide +kernel) (by decide +kernel)
set_option maxRecDepth 20000 in
theorem gq_X8_fix_1 : GoodIn wsL_law wsX8_fix_r1 := goodIn_r _ [30, 41, 411, 412, 413, 29, 414, 415, 416, 417, 418, 57, 440, 441, 442, 443, 61, 63, 62, 68, 72, 58, 426, 2] (by decide +kernel) (by decide +kernel)
set_option maxRecDepth 20000 in
theorem gq_X8_fix_2 : GoodIn wsL_law wsX8_fix_r2 := goodIn_r _ [427, 444, 445, 446, 71, 447, 76, 448] (by decide +kernel) (by decide +kernel)
set_option maxRecDepth 20000 in
theorem gq_X8_fix_3 : GoodIn wsL_law wsX80 := goodIn_r _ [839, 840, 841, 842, 843, 844, 845, 846, 847] (by decide +kernel) (by decide +kernel)
set_option maxRecDepth 20000 in
theorem gq_X8_fix_4 : GoodIn wsL_law wsX10 := goodIn_r _ [901, 902, 903, 904, 905, 906, 907, 908, 909, 910, 911, 912] (by decide +kernel) (by decide +kernel)
set_option maxRecDepth 20000 in
theorem gq_X8_fix_5 : GoodIn wsL_law wsX00 := goodIn_r _ [937] (by decide +kernel) (by decide +kernel)
theorem ggL_law_X8_fix : GoodIn wsL_law wsX8_fix := goodIn_app gq_X8_fix_0 (goodIn_app (goodIn_app (goodIn_app (goodIn_app gq_X8_fix_1 gq_X8_fix_2) gq_X8_fix_3) gq_X8_fix_4) gq_X8_fix_5)
set_option maxRecDepth 20000 in
theorem gL_law_X8_fix : GoodIn wsL_law (wsV RL 45 RX8 yX8_fix wsX8_fix) := goodIn_app (goodIn_of _ (by decide +kernel)) ggL_law_X8_fix

set_option maxRecDepth 20000 in
theorem gq_X9_fix_0 : GoodIn wsL_law [.code yX9_fix cX9_fix 3 (some .int)] := goodIn_r _ [452] (by decide +kernel) (by decide +kernel)
set_option maxRecDepth 20000 in
theorem gq_X9_fix_1 : GoodIn wsL_law ([.fieldLink RX9 30 "BranchPlayModel" "breaks" "[I", .fieldLink RX9 36 "BranchPlayModel" "fixedBy" "[I", .fieldLink RX9 33 "BranchPlayModel" "fixOf" "[I", .fieldLink RX9 113 "BranchPlayModel" "played" "I", .methodLink RX9 196 yX9_isChange, .instanceMethod yX9_isChange, .selects RX9 yX9_isChange yX9_isChange, .initialized RX9, .code yX9_isChange cX9_isChange 2 (some .boolean), .fieldLink RX9 192 "BranchPlayModel" "changes" "I", .methodLink RX9 185 yX9_in, .static yX9_in, .code yX9_in cX9_in 3 (some .boolean)] : List Cond) := goodIn_r _ [139, 141, 140, 166, 432, 433, 434, 5, 435, 404, 329, 330, 331] (by decide +kernel) (by decide +kernel)
set_option maxRecDepth 20000 in
theorem gq_X9_fix_2 : GoodIn wsL_law wsX90 := goodIn_r _ [848, 849, 850, 851, 852, 853, 854, 855, 856, 857, 858, 859, 860, 861, 862, 863, 864, 865, 866, 867, 868, 869, 870, 871, 872, 873, 874, 875, 876, 877, 878, 879, 880, 881, 882, 883, 884, 885, 886, 887, 888, 889, 890, 891] (by decide +kernel) (by decide +kernel)
theorem ggL_law_X9_fix : GoodIn wsL_law wsX9_fix := goodIn_app gq_X9_fix_0 (goodIn_app gq_X9_fix_1 gq_X9_fix_2)
set_option maxRecDepth 20000 in
theorem gL_law_X9_fix : GoodIn wsL_law (wsV RL 48 RX9 yX9_fix wsX9_fix) := goodIn_app (goodIn_of _ (by decide +kernel)) ggL_law_X9_fix

set_option maxRecDepth 20000 in
theorem gq_X8_about_0 : GoodIn wsL_law [.code yX8_about cX8_about 3 (some .int)] := goodIn_r _ [456] (by decide +kernel) (by decide +kernel)
set_option maxRecDepth 20000 in
theorem gq_X8_about_1 : GoodIn wsL_law ([.fieldLink RX8 39 "BranchPlay" "changes" "LBranchPlay$Changes;", .methodLink RX8 119 yX1_isNumber, .instanceMethod yX1_isNumber, .selects RX1 yX1_isNumber yX1_isNumber, .initialized RX1, .code yX1_isNumber cX1_isNumber 2 (some .boolean), .fieldLink RX1 9 "BranchPlay$Changes" "count" "I", .methodLink RX8 122 yX1_tell, .instanceMethod yX1_tell, .selects RX1 yX1_tell yX1_tell, .code yX1_tell cX1_tell 3 (some .int), .fieldLink RX1 15 "BranchPlay$Changes" "birth" "[I", .fieldLink RX1 19 "BranchPlay$Changes" "regions" "[I", .fieldLink RX1 22 "BranchPlay$Changes" "size" "[I", .fieldLink RX1 25 "BranchPlay$Changes" "breakAfter" "[I", .fieldLink RX1 28 "BranchPlay$Changes" "fixOf" "[I", .fieldLink RX1 31 "BranchPlay$Changes" "fixedBy" "[I", .fieldLink RX1 34 "BranchPlay$Changes" "hangCount" "[I", .methodLink RX1 71 yX1_hangAt, .instanceMethod yX1_hangAt, .selects RX1 yX1_hangAt yX1_hangAt, .code yX1_hangAt cX1_hangAt 3 (some .int), .fieldLink RX1 37 "BranchPlay$Changes" "hangs" "[I"] : List Cond) := goodIn_r _ [30, 457, 416, 417, 29, 418, 57, 458, 459, 460, 461, 58, 59, 60, 61, 62, 63, 64, 462, 463, 464, 465, 65] (by decide +kernel) (by decide +kernel)
set_option maxRecDepth 20000 in
theorem gq_X8_about_2 : GoodIn wsL_law wsX80 := goodIn_r _ [839, 840, 841, 842, 843, 844, 845, 846, 847] (by decide +kernel) (by decide +kernel)
set_option maxRecDepth 20000 in
theorem gq_X8_about_3 : GoodIn wsL_law wsX10 := goodIn_r _ [901, 902, 903, 904, 905, 906, 907, 908, 909, 910, 911, 912] (by decide +kernel) (by decide +kernel)
theorem ggL_law_X8_about : GoodIn wsL_law wsX8_about := goodIn_app gq_X8_about_0 (goodIn_app (goodIn_app gq_X8_about_1 gq_X8_about_2) gq_X8_about_3)
set_option maxRecDepth 20000 in
theorem gL_law_X8_about : GoodIn wsL_law (wsV RL 49 RX8 yX8_about wsX8_about) := goodIn_app (goodIn_of _ (by decide +kernel)) ggL_law_X8_about

set_option maxRecDepth 20000 in
theorem gq_X9_about_0 : GoodIn wsL_law [.code yX9_about cX9_about 3 (some .int)] := goodIn_r _ [469] (by decide +kernel) (by decide +kernel)
set_option maxRecDepth 20000 in
theorem gq_X9_about_1 : GoodIn wsL_law ([.fieldLink RX9 21 "BranchPlayModel" "birth" "[I", .fieldLink RX9 24 "BranchPlayModel" "regions" "[I", .fieldLink RX9 27 "BranchPlayModel" "sizes" "[I", .fieldLink RX9 30 "BranchPlayModel" "breaks" "[I", .fieldLink RX9 33 "BranchPlayModel" "fixOf" "[I", .fieldLink RX9 36 "BranchPlayModel" "fixedBy" "[I", .fieldLink RX9 42 "BranchPlayModel" "hangMany" "[I", .fieldLink RX9 39 "BranchPlayModel" "hangs" "[I", .methodLink RX9 196 yX9_isChange, .instanceMethod yX9_isChange, .selects RX9 yX9_isChange yX9_isChange, .initialized RX9, .code yX9_isChange cX9_isChange 2 (some .boolean), .fieldLink RX9 192 "BranchPlayModel" "changes" "I", .methodLink RX9 185 yX9_in, .static yX9_in, .code yX9_in cX9_in 3 (some .boolean)] : List Cond) := goodIn_r _ [136, 137, 138, 139, 140, 141, 143, 142, 432, 433, 434, 5, 435, 404, 329, 330, 331] (by decide +kernel) (by decide +kernel)
set_option maxRecDepth 20000 in
theorem gq_X9_about_2 : GoodIn wsL_law wsX90 := goodIn_r _ [848, 849, 850, 851, 852, 853, 854, 855, 856, 857, 858, 859, 860, 861, 862, 863, 864, 865, 866, 867, 868, 869, 870, 871, 872, 873, 874, 875, 876, 877, 878, 879, 880, 881, 882, 883, 884, 885, 886, 887, 888, 889, 890, 891] (by decide +kernel) (by decide +kernel)
theorem ggL_law_X9_about : GoodIn wsL_law wsX9_about := goodIn_app gq_X9_about_0 (goodIn_app gq_X9_about_1 gq_X9_about_2)
set_option maxRecDepth 20000 in
theorem gL_law_X9_about : GoodIn wsL_law (wsV RL 52 RX9 yX9_about wsX9_about) := goodIn_app (goodIn_of _ (by decide +kernel)) ggL_law_X9_about

set_option maxRecDepth 20000 in
theorem gq_X8_play_0 : GoodIn wsL_law [.code yX8_play cX8_play 2 (some .int)] := goodIn_r _ [473] (by decide +kernel) (by decide +kernel)
set_option maxRecDepth 20000 in
theorem gq_X8_play_1 : GoodIn wsL_law wsX8_play_r1 := goodIn_r _ [38, 21, 41, 474, 475, 198, 199, 2, 200, 476, 477, 478, 37, 479, 88, 480, 24, 25, 26, 481, 482, 483, 484, 485] (by decide +kernel) (by decide +kernel)
set_option maxRecDepth 20000 in
theorem gq_X8_play_2 : GoodIn wsL_law wsX8_play_r2 := goodIn_r _ [486, 487, 488, 89, 90, 97, 98, 99, 95, 489, 100, 101, 105, 490, 106, 107, 108, 109, 110, 111, 112, 113, 491, 492] (by decide +kernel) (by decide +kernel)
set_option maxRecDepth 20000 in
theorem gq_X8_play_3 : GoodIn wsL_law wsX8_play_r3 := goodIn_r _ [493, 494, 495, 496, 497, 71, 498, 76, 499, 500, 501, 502, 503, 504, 505, 114, 506, 507, 508, 509, 510, 511, 512, 513] (by decide +kernel) (by decide +kernel)
set_option maxRecDepth 20000 in
theorem gq_X8_play_4 : GoodIn wsL_law wsX8_play_r4 := goodIn_r _ [514, 515, 516, 517, 420, 421, 518, 519, 520, 521, 522, 523, 524, 525, 426, 427, 526, 527, 528, 529, 530, 531, 532, 533] (by decide +kernel) (by decide +kernel)
set_option maxRecDepth 20000 in
theorem gq_X8_play_5 : GoodIn wsL_law wsX8_play_r5 := goodIn_r _ [534, 535, 536, 537, 104, 538, 128, 123, 125, 126, 127, 539, 540, 541, 542, 543, 396, 397, 398, 544, 545, 546, 547, 548] (by decide +kernel) (by decide +kernel)
set_option maxRecDepth 20000 in
theorem gq_X8_play_6 : GoodIn wsL_law wsX8_play_r6 := goodIn_r _ [549, 550, 551, 552, 553, 554, 555, 556, 557, 558, 559, 560, 561, 91, 562, 563, 564, 565, 566, 567, 568, 569, 570, 571] (by decide +kernel) (by decide +kernel)
set_option maxRecDepth 20000 in
theorem gq_X8_play_7 : GoodIn wsL_law wsX8_play_r7 := goodIn_r _ [572, 573, 574, 94, 575, 119, 118, 576, 577, 578, 579, 580, 581, 582, 583, 584, 585, 586, 587, 588, 589, 590, 591, 592] (by decide +kernel) (by decide +kernel)
set_option maxRecDepth 20000 in
theorem gq_X8_play_8 : GoodIn wsL_law wsX8_play_r8 := goodIn_r _ [593, 594, 595, 596, 597, 598, 599, 600, 601, 602, 603, 604] (by decide +kernel) (by decide +kernel)
set_option maxRecDepth 20000 in
theorem gq_X8_play_9 : GoodIn wsL_law wsX80 := goodIn_r _ [839, 840, 841, 842, 843, 844, 845, 846, 847] (by decide +kernel) (by decide +kernel)
set_option maxRecDepth 20000 in
theorem gq_X8_play_10 : GoodIn wsL_law wsX40 := goodIn_r _ [917, 918, 919, 920, 921, 922, 923, 924, 925, 926, 927, 928, 929, 930, 931, 932, 933, 934, 935, 936] (by decide +kernel) (by decide +kernel)
set_option maxRecDepth 20000 in
theorem gq_X8_play_11 : GoodIn wsL_law wsX30 := goodIn_r _ [940, 941, 942, 943, 944] (by decide +kernel) (by decide +kernel)
set_option maxRecDepth 20000 in
theorem gq_X8_play_12 : GoodIn wsL_law wsX20 := goodIn_r _ [938, 939] (by decide +kernel) (by decide +kernel)
set_option maxRecDepth 20000 in
theorem gq_X8_play_13 : GoodIn wsL_law wsX00 := goodIn_r _ [937] (by decide +kernel) (by decide +kernel)
set_option maxRecDepth 20000 in
theorem gq_X8_play_14 : GoodIn wsL_law wsX10 := goodIn_r _ [901, 902, 903, 904, 905, 906, 907, 908, 909, 910, 911, 912] (by decide +kernel) (by decide +kernel)
theorem ggL_law_X8_play : GoodIn wsL_law wsX8_play := goodIn_app gq_X8_play_0 (goodIn_app (goodIn_app (goodIn_app (goodIn_app (goodIn_app (goodIn_app (goodIn_app gq_X8_play_1 (goodIn_app gq_X8_play_2 (goodIn_app gq_X8_play_3 (goodIn_app gq_X8_play_4 (goodIn_app gq_X8_play_5 (goodIn_app gq_X8_play_6 (goodIn_app gq_X8_play_7 gq_X8_play_8))))))) gq_X8_play_9) gq_X8_play_10) gq_X8_play_11) gq_X8_play_12) gq_X8_play_13) gq_X8_play_14)
set_option maxRecDepth 20000 in
theorem gL_law_X8_play : GoodIn wsL_law (wsV RL 53 RX8 yX8_play wsX8_play) := goodIn_app (goodIn_of _ (by decide +kernel)) ggL_law_X8_play

set_option maxRecDepth 20000 in
theorem gq_X9_play_0 : GoodIn wsL_law [.code yX9_play cX9_play 2 (some .int)] := goodIn_r _ [608] (by decide +kernel) (by decide +kernel)
set_option maxRecDepth 20000 in
theorem gq_X9_play_1 : GoodIn wsL_law wsX9_play_r1 := goodIn_r _ [166, 159, 329, 330, 5, 331, 609, 610, 611, 612, 613, 614, 615, 616, 164, 144, 147, 149, 150, 151, 152, 153, 154, 155] (by decide +kernel) (by decide +kernel)
set_option maxRecDepth 20000 in
theorem gq_X9_play_2 : GoodIn wsL_law wsX9_play_r2 := goodIn_r _ [156, 157, 158, 617, 618, 619, 620, 404, 621, 622, 623, 624, 135, 625, 626, 627, 628, 629, 630, 631, 632, 633, 634, 635] (by decide +kernel) (by decide +kernel)
set_option maxRecDepth 20000 in
theorem gq_X9_play_3 : GoodIn wsL_law wsX9_play_r3 := goodIn_r _ [143, 142, 636, 637, 638, 639, 160, 161, 162, 163, 640, 641, 642, 643, 140, 644, 645, 646, 647, 139, 141, 648, 649, 650] (by decide +kernel) (by decide +kernel)
set_option maxRecDepth 20000 in
theorem gq_X9_play_4 : GoodIn wsL_law wsX9_play_r4 := goodIn_r _ [651, 136, 652, 653, 654, 655, 145, 138, 146, 656, 657, 658, 659, 165, 660, 661, 662, 663, 664, 665, 666, 667, 668, 669] (by decide +kernel) (by decide +kernel)
set_option maxRecDepth 20000 in
theorem gq_X9_play_5 : GoodIn wsL_law wsX9_play_r5 := goodIn_r _ [670, 671, 672, 673, 674, 675, 676, 677, 678, 679, 148, 137, 680, 681, 682, 683, 684, 685, 686, 687] (by decide +kernel) (by decide +kernel)
set_option maxRecDepth 20000 in
theorem gq_X9_play_6 : GoodIn wsL_law wsX90 := goodIn_r _ [848, 849, 850, 851, 852, 853, 854, 855, 856, 857, 858, 859, 860, 861, 862, 863, 864, 865, 866, 867, 868, 869, 870, 871, 872, 873, 874, 875, 876, 877, 878, 879, 880, 881, 882, 883, 884, 885, 886, 887, 888, 889, 890, 891] (by decide +kernel) (by decide +kernel)
theorem ggL_law_X9_play : GoodIn wsL_law wsX9_play := goodIn_app gq_X9_play_0 (goodIn_app (goodIn_app gq_X9_play_1 (goodIn_app gq_X9_play_2 (goodIn_app gq_X9_play_3 (goodIn_app gq_X9_play_4 gq_X9_play_5)))) gq_X9_play_6)
set_option maxRecDepth 20000 in
theorem gL_law_X9_play : GoodIn wsL_law (wsV RL 56 RX9 yX9_play wsX9_play) := goodIn_app (goodIn_of _ (by decide +kernel)) ggL_law_X9_play

set_option maxRecDepth 20000 in
theorem gq_X8_told_0 : GoodIn wsL_law [.code yX8_told cX8_told 3 (some .int)] := goodIn_r _ [691] (by decide +kernel) (by decide +kernel)
set_option maxRecDepth 20000 in
theorem gq_X8_told_1 : GoodIn wsL_law ([.fieldLink RX8 65 "BranchPlay" "playedWay" "I", .fieldLink RX8 39 "BranchPlay" "changes" "LBranchPlay$Changes;", .fieldLink RX8 55 "BranchPlay" "latest" "LBranchPlay$Play;", .methodLink RX8 119 yX1_isNumber, .instanceMethod yX1_isNumber, .selects RX1 yX1_isNumber yX1_isNumber, .initialized RX1, .code yX1_isNumber cX1_isNumber 2 (some .boolean), .fieldLink RX1 9 "BranchPlay$Changes" "count" "I", .methodLink RX8 139 yX4_kept, .instanceMethod yX4_kept, .selects RX4 yX4_kept yX4_kept, .initialized RX4, .code yX4_kept cX4_kept 3 (some .int), .fieldLink RX4 15 "BranchPlay$Play" "moments" "[I", .fieldLink RX4 18 "BranchPlay$Play" "tallies" "[I"] : List Cond) := goodIn_r _ [41, 30, 38, 457, 416, 417, 29, 418, 57, 692, 523, 524, 37, 525, 89, 90] (by decide +kernel) (by decide +kernel)
set_option maxRecDepth 20000 in
theorem gq_X8_told_2 : GoodIn wsL_law wsX80 := goodIn_r _ [839, 840, 841, 842, 843, 844, 845, 846, 847] (by decide +kernel) (by decide +kernel)
set_option maxRecDepth 20000 in
theorem gq_X8_told_3 : GoodIn wsL_law wsX10 := goodIn_r _ [901, 902, 903, 904, 905, 906, 907, 908, 909, 910, 911, 912] (by decide +kernel) (by decide +kernel)
set_option maxRecDepth 20000 in
theorem gq_X8_told_4 : GoodIn wsL_law wsX40 := goodIn_r _ [917, 918, 919, 920, 921, 922, 923, 924, 925, 926, 927, 928, 929, 930, 931, 932, 933, 934, 935, 936] (by decide +kernel) (by decide +kernel)
theorem ggL_law_X8_told : GoodIn wsL_law wsX8_told := goodIn_app gq_X8_told_0 (goodIn_app (goodIn_app (goodIn_app gq_X8_told_1 gq_X8_told_2) gq_X8_told_3) gq_X8_told_4)
set_option maxRecDepth 20000 in
theorem gL_law_X8_told : GoodIn wsL_law (wsV RL 57 RX8 yX8_told wsX8_told) := goodIn_app (goodIn_of _ (by decide +kernel)) ggL_law_X8_told

set_option maxRecDepth 20000 in
theorem gq_X9_told_0 : GoodIn wsL_law [.code yX9_told cX9_told 3 (some .int)] := goodIn_r _ [696] (by decide +kernel) (by decide +kernel)
set_option maxRecDepth 20000 in
theorem gq_X9_told_1 : GoodIn wsL_law ([.fieldLink RX9 113 "BranchPlayModel" "played" "I", .fieldLink RX9 45 "BranchPlayModel" "born" "[I", .fieldLink RX9 54 "BranchPlayModel" "merged" "[I", .fieldLink RX9 60 "BranchPlayModel" "out" "[I", .fieldLink RX9 63 "BranchPlayModel" "met" "[I", .fieldLink RX9 66 "BranchPlayModel" "quarrels" "[I", .fieldLink RX9 69 "BranchPlayModel" "rework" "[I", .fieldLink RX9 72 "BranchPlayModel" "held" "[I", .methodLink RX9 196 yX9_isChange, .instanceMethod yX9_isChange, .selects RX9 yX9_isChange yX9_isChange, .initialized RX9, .code yX9_isChange cX9_isChange 2 (some .boolean), .fieldLink RX9 192 "BranchPlayModel" "changes" "I", .methodLink RX9 185 yX9_in, .static yX9_in, .code yX9_in cX9_in 3 (some .boolean)] : List Cond) := goodIn_r _ [166, 144, 147, 149, 150, 151, 152, 153, 432, 433, 434, 5, 435, 404, 329, 330, 331] (by decide +kernel) (by decide +kernel)
set_option maxRecDepth 20000 in
theorem gq_X9_told_2 : GoodIn wsL_law wsX90 := goodIn_r _ [848, 849, 850, 851, 852, 853, 854, 855, 856, 857, 858, 859, 860, 861, 862, 863, 864, 865, 866, 867, 868, 869, 870, 871, 872, 873, 874, 875, 876, 877, 878, 879, 880, 881, 882, 883, 884, 885, 886, 887, 888, 889, 890, 891] (by decide +kernel) (by decide +kernel)
theorem ggL_law_X9_told : GoodIn wsL_law wsX9_told := goodIn_app gq_X9_told_0 (goodIn_app gq_X9_told_1 gq_X9_told_2)
set_option maxRecDepth 20000 in
theorem gL_law_X9_told : GoodIn wsL_law (wsV RL 60 RX9 yX9_told wsX9_told) := goodIn_app (goodIn_of _ (by decide +kernel)) ggL_law_X9_told
