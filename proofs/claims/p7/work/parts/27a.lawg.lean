set_option maxRecDepth 20000 in
theorem gq_X8_init_0 : GoodIn wsL_law [.code yX8_init cX8_init 2 none] := goodIn_r _ [8] (by decide +kernel) (by decide +kernel)
set_option maxRecDepth 20000 in
theorem gq_X8_init_1 : GoodIn wsL_law wsX8_init_r1 := goodIn_r _ [9, 10, 11, 12, 13, 14, 15, 16, 17, 18, 19, 20, 21, 22, 23, 24, 25, 26, 27, 28, 29, 30, 31, 32] (by decide +kernel) (by decide +kernel)
set_option maxRecDepth 20000 in
theorem gq_X8_init_2 : GoodIn wsL_law wsX8_init_r2 := goodIn_r _ [33, 34, 35, 36, 37, 38, 39, 40, 41, 42, 43, 44, 45, 46, 47, 48, 49, 50, 51, 52, 53, 54, 55, 56] (by decide +kernel) (by decide +kernel)
set_option maxRecDepth 20000 in
theorem gq_X8_init_3 : GoodIn wsL_law wsX8_init_r3 := goodIn_r _ [57, 58, 59, 60, 61, 62, 63, 64, 65, 66, 67, 68, 69, 70, 71, 72, 73, 74, 75, 76, 77, 78, 79, 80] (by decide +kernel) (by decide +kernel)
set_option maxRecDepth 20000 in
theorem gq_X8_init_4 : GoodIn wsL_law wsX8_init_r4 := goodIn_r _ [81, 82, 83, 84, 85, 86, 87, 88, 89, 90, 91, 92, 93, 94, 95, 96, 97, 98, 99, 100, 101, 102, 103, 104] (by decide +kernel) (by decide +kernel)
set_option maxRecDepth 20000 in
theorem gq_X8_init_5 : GoodIn wsL_law wsX8_init_r5 := goodIn_r _ [105, 106, 107, 108, 109, 110, 111, 112, 113, 114, 115, 116, 117, 118, 119, 120, 121, 122, 123, 124, 125, 126, 127, 128] (by decide +kernel) (by decide +kernel)
set_option maxRecDepth 20000 in
theorem gq_X8_init_6 : GoodIn wsL_law wsX70 := goodIn_r _ [892, 893] (by decide +kernel) (by decide +kernel)
set_option maxRecDepth 20000 in
theorem gq_X8_init_7 : GoodIn wsL_law wsX80 := goodIn_r _ [839, 840, 841, 842, 843, 844, 845, 846, 847] (by decide +kernel) (by decide +kernel)
set_option maxRecDepth 20000 in
theorem gq_X8_init_8 : GoodIn wsL_law wsX60 := goodIn_r _ [894, 895, 896, 897, 898, 899, 900] (by decide +kernel) (by decide +kernel)
set_option maxRecDepth 20000 in
theorem gq_X8_init_9 : GoodIn wsL_law wsX10 := goodIn_r _ [901, 902, 903, 904, 905, 906, 907, 908, 909, 910, 911, 912] (by decide +kernel) (by decide +kernel)
set_option maxRecDepth 20000 in
theorem gq_X8_init_10 : GoodIn wsL_law wsX50 := goodIn_r _ [913, 914, 915, 916] (by decide +kernel) (by decide +kernel)
set_option maxRecDepth 20000 in
theorem gq_X8_init_11 : GoodIn wsL_law wsX40 := goodIn_r _ [917, 918, 919, 920, 921, 922, 923, 924, 925, 926, 927, 928, 929, 930, 931, 932, 933, 934, 935, 936] (by decide +kernel) (by decide +kernel)
set_option maxRecDepth 20000 in
theorem gq_X8_init_12 : GoodIn wsL_law wsX00 := goodIn_r _ [937] (by decide +kernel) (by decide +kernel)
set_option maxRecDepth 20000 in
theorem gq_X8_init_13 : GoodIn wsL_law wsX20 := goodIn_r _ [938, 939] (by decide +kernel) (by decide +kernel)
set_option maxRecDepth 20000 in
theorem gq_X8_init_14 : GoodIn wsL_law wsX30 := goodIn_r _ [940, 941, 942, 943, 944] (by decide +kernel) (by decide +kernel)
theorem ggL_law_X8_init : GoodIn wsL_law wsX8_init := goodIn_app gq_X8_init_0 (goodIn_app (goodIn_app (goodIn_app (goodIn_app (goodIn_app (goodIn_app (goodIn_app (goodIn_app (goodIn_app (goodIn_app gq_X8_init_1 (goodIn_app gq_X8_init_2 (goodIn_app gq_X8_init_3 (goodIn_app gq_X8_init_4 gq_X8_init_5)))) gq_X8_init_6) gq_X8_init_7) gq_X8_init_8) gq_X8_init_9) gq_X8_init_10) gq_X8_init_11) gq_X8_init_12) gq_X8_init_13) gq_X8_init_14)
set_option maxRecDepth 20000 in
theorem gL_law_X8_init : GoodIn wsL_law (wsX8_init) := ggL_law_X8_init

set_option maxRecDepth 20000 in
theorem gq_X9_init_0 : GoodIn wsL_law [.code yX9_init cX9_init 3 none] := goodIn_r _ [131] (by decide +kernel) (by decide +kernel)
set_option maxRecDepth 20000 in
theorem gq_X9_init_1 : GoodIn wsL_law wsX9_init_r1 := goodIn_r _ [132, 10, 11, 45, 133, 134, 20, 135, 136, 137, 138, 139, 140, 141, 142, 143, 144, 145, 146, 147, 148, 149, 150, 151] (by decide +kernel) (by decide +kernel)
set_option maxRecDepth 20000 in
theorem gq_X9_init_2 : GoodIn wsL_law wsX9_init_r2 := goodIn_r _ [152, 153, 154, 66, 155, 156, 124, 157, 158, 159, 160, 161, 162, 163, 164, 165, 166, 167, 168, 169, 5, 170] (by decide +kernel) (by decide +kernel)
set_option maxRecDepth 20000 in
theorem gq_X9_init_3 : GoodIn wsL_law wsX90 := goodIn_r _ [848, 849, 850, 851, 852, 853, 854, 855, 856, 857, 858, 859, 860, 861, 862, 863, 864, 865, 866, 867, 868, 869, 870, 871, 872, 873, 874, 875, 876, 877, 878, 879, 880, 881, 882, 883, 884, 885, 886, 887, 888, 889, 890, 891] (by decide +kernel) (by decide +kernel)
theorem ggL_law_X9_init : GoodIn wsL_law wsX9_init := goodIn_app gq_X9_init_0 (goodIn_app (goodIn_app gq_X9_init_1 gq_X9_init_2) gq_X9_init_3)
set_option maxRecDepth 20000 in
theorem gL_law_X9_init : GoodIn wsL_law (wsX9_init) := ggL_law_X9_init

set_option maxRecDepth 20000 in
theorem gq_X8_feed_0 : GoodIn wsL_law [.code yX8_feed cX8_feed 6 (some .int)] := goodIn_r _ [174] (by decide +kernel) (by decide +kernel)
set_option maxRecDepth 20000 in
theorem gq_X8_feed_1 : GoodIn wsL_law ([.fieldLink RX8 10 "BranchPlay" "tape" "LBranchPlay$Tape;", .fieldLink RX8 69 "BranchPlay$Tape" "length" "I", .methodLink RX8 72 yX7_append, .instanceMethod yX7_append, .selects RX7 yX7_append yX7_append, .initialized RX7, .code yX7_append cX7_append 3 none, .fieldLink RX7 15 "BranchPlay$Tape" "length" "I", .fieldLink RX7 11 "BranchPlay$Tape" "bytes" "[B"] : List Cond) := goodIn_r _ [15, 175, 176, 177, 178, 14, 179, 47, 46] (by decide +kernel) (by decide +kernel)
set_option maxRecDepth 20000 in
theorem gq_X8_feed_2 : GoodIn wsL_law wsX80 := goodIn_r _ [839, 840, 841, 842, 843, 844, 845, 846, 847] (by decide +kernel) (by decide +kernel)
set_option maxRecDepth 20000 in
theorem gq_X8_feed_3 : GoodIn wsL_law wsX70 := goodIn_r _ [892, 893] (by decide +kernel) (by decide +kernel)
theorem ggL_law_X8_feed : GoodIn wsL_law wsX8_feed := goodIn_app gq_X8_feed_0 (goodIn_app (goodIn_app gq_X8_feed_1 gq_X8_feed_2) gq_X8_feed_3)
set_option maxRecDepth 20000 in
theorem gL_law_X8_feed : GoodIn wsL_law (wsV RL 13 RX8 yX8_feed wsX8_feed) := goodIn_app (goodIn_of _ (by decide +kernel)) ggL_law_X8_feed

set_option maxRecDepth 20000 in
theorem gq_X9_feed_0 : GoodIn wsL_law [.code yX9_feed cX9_feed 9 (some .int)] := goodIn_r _ [183] (by decide +kernel) (by decide +kernel)
set_option maxRecDepth 20000 in
theorem gq_X9_feed_1 : GoodIn wsL_law ([.fieldLink RX9 123 "BranchPlayModel" "taped" "I", .fieldLink RX9 7 "BranchPlayModel" "tape" "[B"] : List Cond) := goodIn_r _ [184, 133] (by decide +kernel) (by decide +kernel)
set_option maxRecDepth 20000 in
theorem gq_X9_feed_2 : GoodIn wsL_law wsX90 := goodIn_r _ [848, 849, 850, 851, 852, 853, 854, 855, 856, 857, 858, 859, 860, 861, 862, 863, 864, 865, 866, 867, 868, 869, 870, 871, 872, 873, 874, 875, 876, 877, 878, 879, 880, 881, 882, 883, 884, 885, 886, 887, 888, 889, 890, 891] (by decide +kernel) (by decide +kernel)
theorem ggL_law_X9_feed : GoodIn wsL_law wsX9_feed := goodIn_app gq_X9_feed_0 (goodIn_app gq_X9_feed_1 gq_X9_feed_2)
set_option maxRecDepth 20000 in
theorem gL_law_X9_feed : GoodIn wsL_law (wsV RL 17 RX9 yX9_feed wsX9_feed) := goodIn_app (goodIn_of _ (by decide +kernel)) ggL_law_X9_feed

set_option maxRecDepth 20000 in
theorem gq_X8_end_0 : GoodIn wsL_law [.code yX8_end cX8_end 2 (some .int)] := goodIn_r _ [188] (by decide +kernel) (by decide +kernel)
set_option maxRecDepth 20000 in
theorem gq_X8_end_1 : GoodIn wsL_law ([.fieldLink RX8 10 "BranchPlay" "tape" "LBranchPlay$Tape;", .fieldLink RX8 69 "BranchPlay$Tape" "length" "I"] : List Cond) := goodIn_r _ [15, 175] (by decide +kernel) (by decide +kernel)
set_option maxRecDepth 20000 in
theorem gq_X8_end_2 : GoodIn wsL_law wsX80 := goodIn_r _ [839, 840, 841, 842, 843, 844, 845, 846, 847] (by decide +kernel) (by decide +kernel)
set_option maxRecDepth 20000 in
theorem gq_X8_end_3 : GoodIn wsL_law wsX70 := goodIn_r _ [892, 893] (by decide +kernel) (by decide +kernel)
theorem ggL_law_X8_end : GoodIn wsL_law wsX8_end := goodIn_app gq_X8_end_0 (goodIn_app (goodIn_app gq_X8_end_1 gq_X8_end_2) gq_X8_end_3)
set_option maxRecDepth 20000 in
theorem gL_law_X8_end : GoodIn wsL_law (wsV RL 18 RX8 yX8_end wsX8_end) := goodIn_app (goodIn_of _ (by decide +kernel)) ggL_law_X8_end

set_option maxRecDepth 20000 in
theorem gq_X9_end_0 : GoodIn wsL_law [.code yX9_end cX9_end 2 (some .int)] := goodIn_r _ [192] (by decide +kernel) (by decide +kernel)
set_option maxRecDepth 20000 in
theorem gq_X9_end_1 : GoodIn wsL_law ([.fieldLink RX9 123 "BranchPlayModel" "taped" "I"] : List Cond) := goodIn_r _ [184] (by decide +kernel) (by decide +kernel)
set_option maxRecDepth 20000 in
theorem gq_X9_end_2 : GoodIn wsL_law wsX90 := goodIn_r _ [848, 849, 850, 851, 852, 853, 854, 855, 856, 857, 858, 859, 860, 861, 862, 863, 864, 865, 866, 867, 868, 869, 870, 871, 872, 873, 874, 875, 876, 877, 878, 879, 880, 881, 882, 883, 884, 885, 886, 887, 888, 889, 890, 891] (by decide +kernel) (by decide +kernel)
theorem ggL_law_X9_end : GoodIn wsL_law wsX9_end := goodIn_app gq_X9_end_0 (goodIn_app gq_X9_end_1 gq_X9_end_2)
set_option maxRecDepth 20000 in
theorem gL_law_X9_end : GoodIn wsL_law (wsV RL 22 RX9 yX9_end wsX9_end) := goodIn_app (goodIn_of _ (by decide +kernel)) ggL_law_X9_end

set_option maxRecDepth 20000 in
theorem gq_X8_way_0 : GoodIn wsL_law [.code yX8_way cX8_way 3 (some .int)] := goodIn_r _ [196] (by decide +kernel) (by decide +kernel)
set_option maxRecDepth 20000 in
theorem gq_X8_way_1 : GoodIn wsL_law wsX8_way_r1 := goodIn_r _ [15, 175, 19, 197, 21, 23, 24, 25, 26, 41, 198, 199, 2, 200, 201, 202, 203, 18, 204, 51, 205, 52, 53, 206] (by decide +kernel) (by decide +kernel)
set_option maxRecDepth 20000 in
theorem gq_X8_way_2 : GoodIn wsL_law wsX8_way_r2 := goodIn_r _ [207, 208, 209, 210, 211, 212, 14, 213, 47, 46, 214, 215, 216, 217, 218, 219, 220, 221, 222, 223, 224, 225, 226, 227] (by decide +kernel) (by decide +kernel)
set_option maxRecDepth 20000 in
theorem gq_X8_way_3 : GoodIn wsL_law wsX8_way_r3 := goodIn_r _ [228, 229, 230, 231, 232, 233, 234, 235, 236, 237, 238, 239, 240, 241, 242, 243, 244, 245, 246, 247, 248, 249, 250, 251] (by decide +kernel) (by decide +kernel)
set_option maxRecDepth 20000 in
theorem gq_X8_way_4 : GoodIn wsL_law wsX8_way_r4 := goodIn_r _ [252, 253, 254, 255, 256, 257, 258, 259, 260, 261, 262, 263, 264, 265, 266, 267, 268, 269, 270, 271, 272, 273, 274, 275] (by decide +kernel) (by decide +kernel)
set_option maxRecDepth 20000 in
theorem gq_X8_way_5 : GoodIn wsL_law wsX8_way_r5 := goodIn_r _ [276, 277, 278, 279, 280, 281, 282, 283, 284, 285, 286, 287, 288, 289, 290, 291, 292, 293, 294, 295, 296, 297, 298, 299] (by decide +kernel) (by decide +kernel)
set_option maxRecDepth 20000 in
theorem gq_X8_way_6 : GoodIn wsL_law wsX8_way_r6 := goodIn_r _ [300, 301, 302, 303, 304, 305, 306, 307, 308, 309, 310, 311, 312, 313, 314, 315, 316, 317, 318, 319] (by decide +kernel) (by decide +kernel)
set_option maxRecDepth 20000 in
theorem gq_X8_way_7 : GoodIn wsL_law wsX80 := goodIn_r _ [839, 840, 841, 842, 843, 844, 845, 846, 847] (by decide +kernel) (by decide +kernel)
set_option maxRecDepth 20000 in
theorem gq_X8_way_8 : GoodIn wsL_law wsX70 := goodIn_r _ [892, 893] (by decide +kernel) (by decide +kernel)
set_option maxRecDepth 20000 in
theorem gq_X8_way_9 : GoodIn wsL_law wsX60 := goodIn_r _ [894, 895, 896, 897, 898, 899, 900] (by decide +kernel) (by decide +kernel)
theorem ggL_law_X8_way : GoodIn wsL_law wsX8_way := goodIn_app gq_X8_way_0 (goodIn_app (goodIn_app (goodIn_app (goodIn_app gq_X8_way_1 (goodIn_app gq_X8_way_2 (goodIn_app gq_X8_way_3 (goodIn_app gq_X8_way_4 (goodIn_app gq_X8_way_5 gq_X8_way_6))))) gq_X8_way_7) gq_X8_way_8) gq_X8_way_9)
set_option maxRecDepth 20000 in
theorem gL_law_X8_way : GoodIn wsL_law (wsV RL 23 RX8 yX8_way wsX8_way) := goodIn_app (goodIn_of _ (by decide +kernel)) ggL_law_X8_way

set_option maxRecDepth 20000 in
theorem gq_X9_way_0 : GoodIn wsL_law [.code yX9_way cX9_way 5 (some .int)] := goodIn_r _ [323] (by decide +kernel) (by decide +kernel)
set_option maxRecDepth 20000 in
theorem gq_X9_way_1 : GoodIn wsL_law wsX9_way_r1 := goodIn_r _ [184, 324, 325, 134, 135, 326, 327, 328, 166, 329, 330, 5, 331, 168, 169, 170, 332, 333, 334, 335, 336, 337, 338, 339] (by decide +kernel) (by decide +kernel)
set_option maxRecDepth 20000 in
theorem gq_X9_way_2 : GoodIn wsL_law wsX9_way_r2 := goodIn_r _ [340, 341, 133, 342, 343, 344, 345, 346, 347, 348, 349, 235, 236, 237, 238, 239, 240, 241, 242, 243, 244, 245, 350, 247] (by decide +kernel) (by decide +kernel)
set_option maxRecDepth 20000 in
theorem gq_X9_way_3 : GoodIn wsL_law wsX9_way_r3 := goodIn_r _ [248, 249, 250, 251, 252, 253, 254, 255, 256, 257, 258, 259, 260, 261, 262, 263, 264, 265, 266, 267, 268, 269, 270, 271] (by decide +kernel) (by decide +kernel)
set_option maxRecDepth 20000 in
theorem gq_X9_way_4 : GoodIn wsL_law wsX9_way_r4 := goodIn_r _ [272, 273, 274, 275, 276, 277, 278, 279, 280, 281, 282, 351, 352, 353, 354, 355, 356, 357, 358, 359, 360, 361, 362, 363] (by decide +kernel) (by decide +kernel)
set_option maxRecDepth 20000 in
theorem gq_X9_way_5 : GoodIn wsL_law wsX9_way_r5 := goodIn_r _ [364, 365, 366, 367] (by decide +kernel) (by decide +kernel)
set_option maxRecDepth 20000 in
theorem gq_X9_way_6 : GoodIn wsL_law wsX90 := goodIn_r _ [848, 849, 850, 851, 852, 853, 854, 855, 856, 857, 858, 859, 860, 861, 862, 863, 864, 865, 866, 867, 868, 869, 870, 871, 872, 873, 874, 875, 876, 877, 878, 879, 880, 881, 882, 883, 884, 885, 886, 887, 888, 889, 890, 891] (by decide +kernel) (by decide +kernel)
theorem ggL_law_X9_way : GoodIn wsL_law wsX9_way := goodIn_app gq_X9_way_0 (goodIn_app (goodIn_app gq_X9_way_1 (goodIn_app gq_X9_way_2 (goodIn_app gq_X9_way_3 (goodIn_app gq_X9_way_4 gq_X9_way_5)))) gq_X9_way_6)
set_option maxRecDepth 20000 in
theorem gL_law_X9_way : GoodIn wsL_law (wsV RL 26 RX9 yX9_way wsX9_way) := goodIn_app (goodIn_of _ (by decide +kernel)) ggL_law_X9_way
