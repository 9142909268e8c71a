set_option maxRecDepth 20000 in
theorem gq_X8_fault_0 : GoodIn wsL_law [.code yX8_fault cX8_fault 2 (some .int)] := goodIn_r _ [371] (by decide +kernel) (by decide +kernel)
set_option maxRecDepth 20000 in
theorem gq_X8_fault_1 : GoodIn wsL_law ([.fieldLink RX8 19 "BranchPlay" "reader" "LBranchPlay$Reader;", .fieldLink RX8 87 "BranchPlay$Reader" "faultKind" "I", .fieldLink RX8 90 "BranchPlay$Reader" "faultPlace" "I"] : List Cond) := goodIn_r _ [19, 372, 373] (by decide +kernel) (by decide +kernel)
set_option maxRecDepth 20000 in
theorem gq_X8_fault_2 : GoodIn wsL_law wsX80 := goodIn_r _ [839, 840, 841, 842, 843, 844, 845, 846, 847] (by decide +kernel) (by decide +kernel)
set_option maxRecDepth 20000 in
theorem gq_X8_fault_3 : GoodIn wsL_law wsX60 := goodIn_r _ [894, 895, 896, 897, 898, 899, 900] (by decide +kernel) (by decide +kernel)
theorem ggL_law_X8_fault : GoodIn wsL_law wsX8_fault := goodIn_app gq_X8_fault_0 (goodIn_app (goodIn_app gq_X8_fault_1 gq_X8_fault_2) gq_X8_fault_3)
set_option maxRecDepth 20000 in
theorem gL_law_X8_fault : GoodIn wsL_law (wsV RL 27 RX8 yX8_fault wsX8_fault) := goodIn_app (goodIn_of _ (by decide +kernel)) ggL_law_X8_fault

set_option maxRecDepth 20000 in
theorem gq_X9_fault_0 : GoodIn wsL_law [.code yX9_fault cX9_fault 2 (some .int)] := goodIn_r _ [377] (by decide +kernel) (by decide +kernel)
set_option maxRecDepth 20000 in
theorem gq_X9_fault_1 : GoodIn wsL_law ([.fieldLink RX9 170 "BranchPlayModel" "faultKind" "I", .fieldLink RX9 13 "BranchPlayModel" "faultPlace" "I"] : List Cond) := goodIn_r _ [325, 134] (by decide +kernel) (by decide +kernel)
set_option maxRecDepth 20000 in
theorem gq_X9_fault_2 : GoodIn wsL_law wsX90 := goodIn_r _ [848, 849, 850, 851, 852, 853, 854, 855, 856, 857, 858, 859, 860, 861, 862, 863, 864, 865, 866, 867, 868, 869, 870, 871, 872, 873, 874, 875, 876, 877, 878, 879, 880, 881, 882, 883, 884, 885, 886, 887, 888, 889, 890, 891] (by decide +kernel) (by decide +kernel)
theorem ggL_law_X9_fault : GoodIn wsL_law wsX9_fault := goodIn_app gq_X9_fault_0 (goodIn_app gq_X9_fault_1 gq_X9_fault_2)
set_option maxRecDepth 20000 in
theorem gL_law_X9_fault : GoodIn wsL_law (wsV RL 30 RX9 yX9_fault wsX9_fault) := goodIn_app (goodIn_of _ (by decide +kernel)) ggL_law_X9_fault

set_option maxRecDepth 20000 in
theorem gq_X8_rule_0 : GoodIn wsL_law [.code yX8_rule cX8_rule 3 (some .int)] := goodIn_r _ [381] (by decide +kernel) (by decide +kernel)
set_option maxRecDepth 20000 in
theorem gq_X8_rule_1 : GoodIn wsL_law ([.fieldLink RX8 23 "BranchPlay" "ways" "[I", .methodLink RX8 76 yX8_isWay, .static yX8_isWay, .initialized RX8, .code yX8_isWay cX8_isWay 1 (some .boolean)] : List Cond) := goodIn_r _ [21, 198, 199, 2, 200] (by decide +kernel) (by decide +kernel)
set_option maxRecDepth 20000 in
theorem gq_X8_rule_2 : GoodIn wsL_law wsX80 := goodIn_r _ [839, 840, 841, 842, 843, 844, 845, 846, 847] (by decide +kernel) (by decide +kernel)
theorem ggL_law_X8_rule : GoodIn wsL_law wsX8_rule := goodIn_app gq_X8_rule_0 (goodIn_app gq_X8_rule_1 gq_X8_rule_2)
set_option maxRecDepth 20000 in
theorem gL_law_X8_rule : GoodIn wsL_law (wsV RL 31 RX8 yX8_rule wsX8_rule) := goodIn_app (goodIn_of _ (by decide +kernel)) ggL_law_X8_rule

set_option maxRecDepth 20000 in
theorem gq_X9_rule_0 : GoodIn wsL_law [.code yX9_rule cX9_rule 3 (some .int)] := goodIn_r _ [385] (by decide +kernel) (by decide +kernel)
set_option maxRecDepth 20000 in
theorem gq_X9_rule_1 : GoodIn wsL_law ([.fieldLink RX9 17 "BranchPlayModel" "rules" "[I", .methodLink RX9 185 yX9_in, .static yX9_in, .initialized RX9, .code yX9_in cX9_in 3 (some .boolean)] : List Cond) := goodIn_r _ [135, 329, 330, 5, 331] (by decide +kernel) (by decide +kernel)
set_option maxRecDepth 20000 in
theorem gq_X9_rule_2 : GoodIn wsL_law wsX90 := goodIn_r _ [848, 849, 850, 851, 852, 853, 854, 855, 856, 857, 858, 859, 860, 861, 862, 863, 864, 865, 866, 867, 868, 869, 870, 871, 872, 873, 874, 875, 876, 877, 878, 879, 880, 881, 882, 883, 884, 885, 886, 887, 888, 889, 890, 891] (by decide +kernel) (by decide +kernel)
theorem ggL_law_X9_rule : GoodIn wsL_law wsX9_rule := goodIn_app gq_X9_rule_0 (goodIn_app gq_X9_rule_1 gq_X9_rule_2)
set_option maxRecDepth 20000 in
theorem gL_law_X9_rule : GoodIn wsL_law (wsV RL 35 RX9 yX9_rule wsX9_rule) := goodIn_app (goodIn_of _ (by decide +kernel)) ggL_law_X9_rule

set_option maxRecDepth 20000 in
theorem gq_X8_change_0 : GoodIn wsL_law [.code yX8_change cX8_change 6 (some .int)] := goodIn_r _ [389] (by decide +kernel) (by decide +kernel)
set_option maxRecDepth 20000 in
theorem gq_X8_change_1 : GoodIn wsL_law ([.fieldLink RX8 39 "BranchPlay" "changes" "LBranchPlay$Changes;", .fieldLink RX8 65 "BranchPlay" "playedWay" "I", .methodLink RX8 93 yX1_add, .instanceMethod yX1_add, .selects RX1 yX1_add yX1_add, .initialized RX1, .code yX1_add cX1_add 7 (some .int), .constant RX1 59 (1073741823), .fieldLink RX1 9 "BranchPlay$Changes" "count" "I", .fieldLink RX1 15 "BranchPlay$Changes" "birth" "[I", .fieldLink RX1 19 "BranchPlay$Changes" "regions" "[I", .fieldLink RX1 22 "BranchPlay$Changes" "size" "[I", .fieldLink RX1 25 "BranchPlay$Changes" "breakAfter" "[I", .fieldLink RX1 28 "BranchPlay$Changes" "fixOf" "[I", .fieldLink RX1 31 "BranchPlay$Changes" "fixedBy" "[I", .fieldLink RX1 51 "BranchPlay$Changes" "births" "LBranchPlay$Agenda;", .methodLink RX1 60 yX0_put, .instanceMethod yX0_put, .selects RX0 yX0_put yX0_put, .initialized RX0, .code yX0_put cX0_put 3 none, .fieldLink RX0 9 "BranchPlay$Agenda" "sets" "[J"] : List Cond) := goodIn_r _ [30, 41, 390, 391, 392, 29, 393, 394, 57, 58, 59, 60, 61, 62, 63, 72, 395, 396, 397, 71, 398, 76] (by decide +kernel) (by decide +kernel)
set_option maxRecDepth 20000 in
theorem gq_X8_change_2 : GoodIn wsL_law wsX80 := goodIn_r _ [839, 840, 841, 842, 843, 844, 845, 846, 847] (by decide +kernel) (by decide +kernel)
set_option maxRecDepth 20000 in
theorem gq_X8_change_3 : GoodIn wsL_law wsX10 := goodIn_r _ [901, 902, 903, 904, 905, 906, 907, 908, 909, 910, 911, 912] (by decide +kernel) (by decide +kernel)
set_option maxRecDepth 20000 in
theorem gq_X8_change_4 : GoodIn wsL_law wsX00 := goodIn_r _ [937] (by decide +kernel) (by decide +kernel)
theorem ggL_law_X8_change : GoodIn wsL_law wsX8_change := goodIn_app gq_X8_change_0 (goodIn_app (goodIn_app (goodIn_app gq_X8_change_1 gq_X8_change_2) gq_X8_change_3) gq_X8_change_4)
set_option maxRecDepth 20000 in
theorem gL_law_X8_change : GoodIn wsL_law (wsV RL 36 RX8 yX8_change wsX8_change) := goodIn_app (goodIn_of _ (by decide +kernel)) ggL_law_X8_change

set_option maxRecDepth 20000 in
theorem gq_X9_change_0 : GoodIn wsL_law [.code yX9_change cX9_change 5 (some .int)] := goodIn_r _ [402] (by decide +kernel) (by decide +kernel)
set_option maxRecDepth 20000 in
theorem gq_X9_change_1 : GoodIn wsL_law ([.constant RX9 195 (1073741823), .fieldLink RX9 192 "BranchPlayModel" "changes" "I", .fieldLink RX9 21 "BranchPlayModel" "birth" "[I", .fieldLink RX9 24 "BranchPlayModel" "regions" "[I", .fieldLink RX9 27 "BranchPlayModel" "sizes" "[I", .fieldLink RX9 30 "BranchPlayModel" "breaks" "[I", .fieldLink RX9 33 "BranchPlayModel" "fixOf" "[I", .fieldLink RX9 36 "BranchPlayModel" "fixedBy" "[I", .fieldLink RX9 42 "BranchPlayModel" "hangMany" "[I", .fieldLink RX9 113 "BranchPlayModel" "played" "I", .methodLink RX9 185 yX9_in, .static yX9_in, .initialized RX9, .code yX9_in cX9_in 3 (some .boolean)] : List Cond) := goodIn_r _ [403, 404, 136, 137, 138, 139, 140, 141, 143, 166, 329, 330, 5, 331] (by decide +kernel) (by decide +kernel)
set_option maxRecDepth 20000 in
theorem gq_X9_change_2 : GoodIn wsL_law wsX90 := goodIn_r _ [848, 849, 850, 851, 852, 853, 854, 855, 856, 857, 858, 859, 860, 861, 862, 863, 864, 865, 866, 867, 868, 869, 870, 871, 872, 873, 874, 875, 876, 877, 878, 879, 880, 881, 882, 883, 884, 885, 886, 887, 888, 889, 890, 891] (by decide +kernel) (by decide +kernel)
theorem ggL_law_X9_change : GoodIn wsL_law wsX9_change := goodIn_app gq_X9_change_0 (goodIn_app gq_X9_change_1 gq_X9_change_2)
set_option maxRecDepth 20000 in
theorem gL_law_X9_change : GoodIn wsL_law (wsV RL 40 RX9 yX9_change wsX9_change) := goodIn_app (goodIn_of _ (by decide +kernel)) ggL_law_X9_change

set_option maxRecDepth 20000 in
theorem gq_X8_hang_0 : GoodIn wsL_law [.code yX8_hang cX8_hang 4 (some .int)] := goodIn_r _ [408] (by decide +kernel) (by decide +kernel)
set_option maxRecDepth 20000 in
theorem gq_X8_hang_1 : GoodIn wsL_law wsX8_hang_r1 := goodIn_r _ [30, 409, 410, 41, 411, 412, 413, 29, 414, 415, 416, 417, 418, 57, 419, 420, 2, 421, 422, 423, 424, 425, 64, 65] (by decide +kernel) (by decide +kernel)
set_option maxRecDepth 20000 in
theorem gq_X8_hang_2 : GoodIn wsL_law wsX8_hang_r2 := goodIn_r _ [67, 426, 427] (by decide +kernel) (by decide +kernel)
set_option maxRecDepth 20000 in
theorem gq_X8_hang_3 : GoodIn wsL_law wsX80 := goodIn_r _ [839, 840, 841, 842, 843, 844, 845, 846, 847] (by decide +kernel) (by decide +kernel)
set_option maxRecDepth 20000 in
theorem gq_X8_hang_4 : GoodIn wsL_law wsX10 := goodIn_r _ [901, 902, 903, 904, 905, 906, 907, 908, 909, 910, 911, 912] (by decide +kernel) (by decide +kernel)
theorem ggL_law_X8_hang : GoodIn wsL_law wsX8_hang := goodIn_app gq_X8_hang_0 (goodIn_app (goodIn_app (goodIn_app gq_X8_hang_1 gq_X8_hang_2) gq_X8_hang_3) gq_X8_hang_4)
set_option maxRecDepth 20000 in
theorem gL_law_X8_hang : GoodIn wsL_law (wsV RL 41 RX8 yX8_hang wsX8_hang) := goodIn_app (goodIn_of _ (by decide +kernel)) ggL_law_X8_hang

set_option maxRecDepth 20000 in
theorem gq_X9_hang_0 : GoodIn wsL_law [.code yX9_hang cX9_hang 4 (some .int)] := goodIn_r _ [431] (by decide +kernel) (by decide +kernel)
set_option maxRecDepth 20000 in
theorem gq_X9_hang_1 : GoodIn wsL_law ([.fieldLink RX9 42 "BranchPlayModel" "hangMany" "[I", .fieldLink RX9 39 "BranchPlayModel" "hangs" "[I", .fieldLink RX9 113 "BranchPlayModel" "played" "I", .methodLink RX9 196 yX9_isChange, .instanceMethod yX9_isChange, .selects RX9 yX9_isChange yX9_isChange, .initialized RX9, .code yX9_isChange cX9_isChange 2 (some .boolean), .fieldLink RX9 192 "BranchPlayModel" "changes" "I", .methodLink RX9 185 yX9_in, .static yX9_in, .code yX9_in cX9_in 3 (some .boolean)] : List Cond) := goodIn_r _ [143, 142, 166, 432, 433, 434, 5, 435, 404, 329, 330, 331] (by decide +kernel) (by decide +kernel)
set_option maxRecDepth 20000 in
theorem gq_X9_hang_2 : GoodIn wsL_law wsX90 := goodIn_r _ [848, 849, 850, 851, 852, 853, 854, 855, 856, 857, 858, 859, 860, 861, 862, 863, 864, 865, 866, 867, 868, 869, 870, 871, 872, 873, 874, 875, 876, 877, 878, 879, 880, 881, 882, 883, 884, 885, 886, 887, 888, 889, 890, 891] (by decide +kernel) (by decide +kernel)
theorem ggL_law_X9_hang : GoodIn wsL_law wsX9_hang := goodIn_app gq_X9_hang_0 (goodIn_app gq_X9_hang_1 gq_X9_hang_2)
set_option maxRecDepth 20000 in
theorem gL_law_X9_hang : GoodIn wsL_law (wsV RL 44 RX9 yX9_hang wsX9_hang) := goodIn_app (goodIn_of _ (by decide +kernel)) ggL_law_X9_hang
