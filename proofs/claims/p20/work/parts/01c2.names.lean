set_option maxRecDepth 20000 in
theorem ggX8_costs_X8_isWay : GoodIn wsX8_costs wsX8_isWay := goodIn_r _ [7] rfl (by decide +kernel)
set_option maxRecDepth 20000 in
theorem gX8_costs_X8_isWay : GoodIn wsX8_costs (va_wsS RX8 76 yX8_isWay wsX8_isWay) := goodIn_app (goodIn_r _ [4, 5, 6] rfl (by decide +kernel)) ggX8_costs_X8_isWay
set_option maxRecDepth 20000 in
theorem ggX8_costs_X4_take : GoodIn wsX8_costs wsX4_take := goodIn_r _ [12, 13, 14, 15, 16, 17, 5, 6, 7, 232, 233, 234, 235, 236, 237, 238, 239, 240, 241, 242, 243, 244, 245, 246, 247, 248, 249, 250, 251] rfl (by decide +kernel)
set_option maxRecDepth 20000 in
theorem gX8_costs_X4_take : GoodIn wsX8_costs (wsV RX8 125 RX4 yX4_take wsX4_take) := goodIn_app (goodIn_r _ [8, 9, 10, 11] rfl (by decide +kernel)) ggX8_costs_X4_take
set_option maxRecDepth 20000 in
theorem ggX8_costs_X4_run : GoodIn wsX8_costs wsX4_run := goodIn_r _ [21, 22, 23, 24, 11, 25, 26, 27, 28, 29, 30, 31, 32, 33, 34, 35, 36, 37, 38, 39, 40, 41, 13, 42, 43, 44, 45, 46, 47, 48, 49, 50, 51, 52, 53, 54, 55, 56, 57, 58, 59, 60, 61, 62, 63, 64, 65, 66, 67, 68, 69, 70, 71, 72, 73, 74, 75, 6, 76, 77, 78, 79, 80, 81, 82, 83, 84, 85, 86, 87, 88, 89, 90, 91, 92, 93, 94, 95, 96, 97, 98, 99, 100, 101, 102, 103, 104, 105, 106, 107, 108, 109, 110, 111, 112, 113, 114, 115, 116, 117, 118, 119, 120, 121, 122, 123, 124, 125, 126, 127, 128, 129, 130, 131, 132, 133, 134, 135, 136, 137, 138, 139, 140, 141, 142, 143, 144, 145, 146, 147, 148, 149, 150, 151, 152, 153, 154, 155, 156, 157, 158, 159, 160, 161, 162, 163, 164, 165, 166, 167, 168, 169, 170, 171, 172, 173, 174, 175, 176, 177, 178, 232, 233, 234, 235, 236, 237, 238, 239, 240, 241, 242, 243, 244, 245, 246, 247, 248, 249, 250, 251, 252, 253, 254, 255, 256, 257, 258, 259, 260, 261, 262, 263, 264, 265, 266, 267, 268, 269, 270, 271] rfl (by decide +kernel)
set_option maxRecDepth 20000 in
theorem gX8_costs_X4_run : GoodIn wsX8_costs (wsV RX8 129 RX4 yX4_run wsX4_run) := goodIn_app (goodIn_r _ [18, 19, 20, 11] rfl (by decide +kernel)) ggX8_costs_X4_run
set_option maxRecDepth 20000 in
theorem ggX8_costs_X5_of : GoodIn wsX8_costs wsX5_of := goodIn_r _ [183, 184, 185, 186, 187, 188, 189, 190, 11, 191, 43, 39, 44, 192, 193, 194, 195, 62, 72, 196, 197, 198, 199, 75, 6, 76, 81, 82, 83, 84, 26, 27, 200, 201, 202, 203, 64, 65, 66, 67, 204, 205, 206, 207, 208, 209, 210, 211, 212, 213, 214, 215, 216, 217, 218, 219, 220, 221, 222, 133, 272, 273, 274, 275, 232, 233, 234, 235, 236, 237, 238, 239, 240, 241, 242, 243, 244, 245, 246, 247, 248, 249, 250, 251, 260, 261, 262, 263, 264, 265, 266, 267, 268, 269, 270, 271] rfl (by decide +kernel)
set_option maxRecDepth 20000 in
theorem gX8_costs_X5_of : GoodIn wsX8_costs (wsV RX8 183 RX5 yX5_of wsX5_of) := goodIn_app (goodIn_r _ [179, 180, 181, 182] rfl (by decide +kernel)) ggX8_costs_X5_of
theorem dX8_costs_0 : decode cX8_costs 0 = .ok (.iload_n 1, 1) := by decide +kernel
theorem dX8_costs_1 : decode cX8_costs 1 = .ok (.invokestatic 76, 3) := by decide +kernel
theorem dX8_costs_4 : decode cX8_costs 4 = .ok (.ifCond .ne 6, 3) := by decide +kernel
theorem dX8_costs_7 : decode cX8_costs 7 = .ok (.bipush (-2), 2) := by decide +kernel
theorem dX8_costs_9 : decode cX8_costs 9 = .ok (.ireturn, 1) := by decide +kernel
theorem dX8_costs_10 : decode cX8_costs 10 = .ok (.aload_n 0, 1) := by decide +kernel
theorem dX8_costs_11 : decode cX8_costs 11 = .ok (.getfield 59, 3) := by decide +kernel
theorem dX8_costs_14 : decode cX8_costs 14 = .ok (.aload_n 0, 1) := by decide +kernel
theorem dX8_costs_15 : decode cX8_costs 15 = .ok (.getfield 23, 3) := by decide +kernel
theorem dX8_costs_18 : decode cX8_costs 18 = .ok (.iload_n 1, 1) := by decide +kernel
theorem dX8_costs_19 : decode cX8_costs 19 = .ok (.invokevirtual 125, 3) := by decide +kernel
theorem dX8_costs_22 : decode cX8_costs 22 = .ok (.aload_n 0, 1) := by decide +kernel
theorem dX8_costs_23 : decode cX8_costs 23 = .ok (.getfield 59, 3) := by decide +kernel
theorem dX8_costs_26 : decode cX8_costs 26 = .ok (.invokevirtual 129, 3) := by decide +kernel
theorem dX8_costs_29 : decode cX8_costs 29 = .ok (.aload_n 0, 1) := by decide +kernel
theorem dX8_costs_30 : decode cX8_costs 30 = .ok (.getfield 46, 3) := by decide +kernel
theorem dX8_costs_33 : decode cX8_costs 33 = .ok (.aload_n 0, 1) := by decide +kernel
theorem dX8_costs_34 : decode cX8_costs 34 = .ok (.getfield 59, 3) := by decide +kernel
theorem dX8_costs_37 : decode cX8_costs 37 = .ok (.invokevirtual 183, 3) := by decide +kernel
theorem dX8_costs_40 : decode cX8_costs 40 = .ok (.ireturn, 1) := by decide +kernel
set_option maxRecDepth 20000 in
theorem ggX8_best_X8_isWay : GoodIn wsX8_best wsX8_isWay := goodIn_r _ [8] rfl (by decide +kernel)
set_option maxRecDepth 20000 in
theorem gX8_best_X8_isWay : GoodIn wsX8_best (va_wsS RX8 76 yX8_isWay wsX8_isWay) := goodIn_app (goodIn_r _ [5, 6, 7] rfl (by decide +kernel)) ggX8_best_X8_isWay
set_option maxRecDepth 20000 in
theorem ggX8_best_X8_isWithinBounds : GoodIn wsX8_best wsX8_isWithinBounds := goodIn_r _ [11, 12, 13] rfl (by decide +kernel)
set_option maxRecDepth 20000 in
theorem gX8_best_X8_isWithinBounds : GoodIn wsX8_best (va_wsS RX8 187 yX8_isWithinBounds wsX8_isWithinBounds) := goodIn_app (goodIn_r _ [9, 10, 7] rfl (by decide +kernel)) ggX8_best_X8_isWithinBounds
set_option maxRecDepth 20000 in
theorem ggX8_best_X4_take : GoodIn wsX8_best wsX4_take := goodIn_r _ [18, 19, 20, 21, 22, 23, 6, 7, 8, 238, 239, 240, 241, 242, 243, 244, 245, 246, 247, 248, 249, 250, 251, 252, 253, 254, 255, 256, 257] rfl (by decide +kernel)
set_option maxRecDepth 20000 in
theorem gX8_best_X4_take : GoodIn wsX8_best (wsV RX8 125 RX4 yX4_take wsX4_take) := goodIn_app (goodIn_r _ [14, 15, 16, 17] rfl (by decide +kernel)) ggX8_best_X4_take
set_option maxRecDepth 20000 in
theorem ggX8_best_X4_run : GoodIn wsX8_best wsX4_run := goodIn_r _ [27, 28, 29, 30, 17, 31, 32, 33, 34, 35, 36, 37, 38, 39, 40, 41, 42, 43, 44, 45, 46, 47, 19, 48, 49, 50, 51, 52, 53, 54, 55, 56, 57, 58, 59, 60, 61, 62, 63, 64, 65, 66, 67, 68, 69, 70, 71, 72, 73, 74, 75, 76, 77, 78, 79, 80, 81, 7, 82, 83, 84, 85, 86, 87, 88, 89, 90, 91, 92, 93, 94, 95, 96, 97, 98, 99, 100, 101, 102, 103, 104, 105, 106, 107, 108, 109, 110, 111, 112, 113, 114, 115, 116, 117, 118, 119, 120, 121, 122, 123, 124, 125, 126, 127, 128, 129, 130, 131, 132, 133, 134, 135, 136, 137, 138, 139, 140, 141, 142, 143, 144, 145, 146, 147, 148, 149, 150, 151, 152, 153, 154, 155, 156, 157, 158, 159, 160, 161, 162, 163, 164, 165, 166, 167, 168, 169, 170, 171, 172, 173, 174, 175, 176, 177, 178, 179, 180, 181, 182, 183, 184, 238, 239, 240, 241, 242, 243, 244, 245, 246, 247, 248, 249, 250, 251, 252, 253, 254, 255, 256, 257, 258, 259, 260, 261, 262, 263, 264, 265, 266, 267, 268, 269, 270, 271, 272, 273, 274, 275, 276, 277] rfl (by decide +kernel)
set_option maxRecDepth 20000 in
theorem gX8_best_X4_run : GoodIn wsX8_best (wsV RX8 129 RX4 yX4_run wsX4_run) := goodIn_app (goodIn_r _ [24, 25, 26, 17] rfl (by decide +kernel)) ggX8_best_X4_run
set_option maxRecDepth 20000 in
theorem ggX8_best_X5_of : GoodIn wsX8_best wsX5_of := goodIn_r _ [189, 190, 191, 192, 193, 194, 195, 196, 17, 197, 49, 45, 50, 198, 199, 200, 201, 68, 78, 202, 203, 204, 205, 81, 7, 82, 87, 88, 89, 90, 32, 33, 206, 207, 208, 209, 70, 71, 72, 73, 210, 211, 212, 213, 214, 215, 216, 217, 218, 219, 220, 221, 222, 223, 224, 225, 226, 227, 228, 139, 278, 279, 280, 281, 238, 239, 240, 241, 242, 243, 244, 245, 246, 247, 248, 249, 250, 251, 252, 253, 254, 255, 256, 257, 266, 267, 268, 269, 270, 271, 272, 273, 274, 275, 276, 277] rfl (by decide +kernel)
set_option maxRecDepth 20000 in
theorem gX8_best_X5_of : GoodIn wsX8_best (wsV RX8 183 RX5 yX5_of wsX5_of) := goodIn_app (goodIn_r _ [185, 186, 187, 188] rfl (by decide +kernel)) ggX8_best_X5_of
theorem dX8_best_0 : decode cX8_best 0 = .ok (.iload_n 1, 1) := by decide +kernel
theorem dX8_best_1 : decode cX8_best 1 = .ok (.invokestatic 76, 3) := by decide +kernel
theorem dX8_best_4 : decode cX8_best 4 = .ok (.ifCond .eq 12, 3) := by decide +kernel
theorem dX8_best_7 : decode cX8_best 7 = .ok (.iload_n 2, 1) := by decide +kernel
theorem dX8_best_8 : decode cX8_best 8 = .ok (.ifCond .lt 8, 3) := by decide +kernel
theorem dX8_best_11 : decode cX8_best 11 = .ok (.iload_n 2, 1) := by decide +kernel
theorem dX8_best_12 : decode cX8_best 12 = .ok (.iconst 5, 1) := by decide +kernel
theorem dX8_best_13 : decode cX8_best 13 = .ok (.if_icmp .le 6, 3) := by decide +kernel
theorem dX8_best_16 : decode cX8_best 16 = .ok (.bipush (-2), 2) := by decide +kernel
theorem dX8_best_18 : decode cX8_best 18 = .ok (.ireturn, 1) := by decide +kernel
theorem dX8_best_19 : decode cX8_best 19 = .ok (.iload_n 2, 1) := by decide +kernel
theorem dX8_best_20 : decode cX8_best 20 = .ok (.iload_n 3, 1) := by decide +kernel
theorem dX8_best_21 : decode cX8_best 21 = .ok (.invokestatic 187, 3) := by decide +kernel
theorem dX8_best_24 : decode cX8_best 24 = .ok (.ifCond .eq 21, 3) := by decide +kernel
theorem dX8_best_27 : decode cX8_best 27 = .ok (.iload_n 2, 1) := by decide +kernel
theorem dX8_best_28 : decode cX8_best 28 = .ok (.iload 4, 2) := by decide +kernel
theorem dX8_best_30 : decode cX8_best 30 = .ok (.invokestatic 187, 3) := by decide +kernel
theorem dX8_best_33 : decode cX8_best 33 = .ok (.ifCond .eq 12, 3) := by decide +kernel
theorem dX8_best_36 : decode cX8_best 36 = .ok (.iload 4, 2) := by decide +kernel
theorem dX8_best_38 : decode cX8_best 38 = .ok (.iload_n 3, 1) := by decide +kernel
theorem dX8_best_39 : decode cX8_best 39 = .ok (.isub, 1) := by decide +kernel
theorem dX8_best_40 : decode cX8_best 40 = .ok (.bipush 30, 2) := by decide +kernel
theorem dX8_best_42 : decode cX8_best 42 = .ok (.if_icmp .lt 6, 3) := by decide +kernel
theorem dX8_best_45 : decode cX8_best 45 = .ok (.bipush (-2), 2) := by decide +kernel
theorem dX8_best_47 : decode cX8_best 47 = .ok (.ireturn, 1) := by decide +kernel
theorem dX8_best_48 : decode cX8_best 48 = .ok (.iconst (-1), 1) := by decide +kernel
theorem dX8_best_49 : decode cX8_best 49 = .ok (.istore 5, 2) := by decide +kernel
theorem dX8_best_51 : decode cX8_best 51 = .ok (.iconst 0, 1) := by decide +kernel
theorem dX8_best_52 : decode cX8_best 52 = .ok (.istore 6, 2) := by decide +kernel
theorem dX8_best_54 : decode cX8_best 54 = .ok (.iload_n 3, 1) := by decide +kernel
theorem dX8_best_55 : decode cX8_best 55 = .ok (.istore 7, 2) := by decide +kernel
theorem dX8_best_57 : decode cX8_best 57 = .ok (.iload 7, 2) := by decide +kernel
theorem dX8_best_59 : decode cX8_best 59 = .ok (.iload 4, 2) := by decide +kernel
theorem dX8_best_61 : decode cX8_best 61 = .ok (.if_icmp .gt 94, 3) := by decide +kernel
theorem dX8_best_64 : decode cX8_best 64 = .ok (.aload_n 0, 1) := by decide +kernel
theorem dX8_best_65 : decode cX8_best 65 = .ok (.getfield 59, 3) := by decide +kernel
theorem dX8_best_68 : decode cX8_best 68 = .ok (.aload_n 0, 1) := by decide +kernel
theorem dX8_best_69 : decode cX8_best 69 = .ok (.getfield 23, 3) := by decide +kernel
theorem dX8_best_72 : decode cX8_best 72 = .ok (.iload_n 1, 1) := by decide +kernel
theorem dX8_best_73 : decode cX8_best 73 = .ok (.invokevirtual 125, 3) := by decide +kernel
theorem dX8_best_76 : decode cX8_best 76 = .ok (.aload_n 0, 1) := by decide +kernel
theorem dX8_best_77 : decode cX8_best 77 = .ok (.getfield 59, 3) := by decide +kernel
theorem dX8_best_80 : decode cX8_best 80 = .ok (.getfield 190, 3) := by decide +kernel
theorem dX8_best_83 : decode cX8_best 83 = .ok (.iload_n 2, 1) := by decide +kernel
theorem dX8_best_84 : decode cX8_best 84 = .ok (.iload 7, 2) := by decide +kernel
theorem dX8_best_86 : decode cX8_best 86 = .ok (.iastore, 1) := by decide +kernel
theorem dX8_best_87 : decode cX8_best 87 = .ok (.aload_n 0, 1) := by decide +kernel
theorem dX8_best_88 : decode cX8_best 88 = .ok (.getfield 59, 3) := by decide +kernel
theorem dX8_best_91 : decode cX8_best 91 = .ok (.getfield 190, 3) := by decide +kernel
theorem dX8_best_94 : decode cX8_best 94 = .ok (.iconst 1, 1) := by decide +kernel
theorem dX8_best_95 : decode cX8_best 95 = .ok (.iaload, 1) := by decide +kernel
theorem dX8_best_96 : decode cX8_best 96 = .ok (.aload_n 0, 1) := by decide +kernel
theorem dX8_best_97 : decode cX8_best 97 = .ok (.getfield 59, 3) := by decide +kernel
theorem dX8_best_100 : decode cX8_best 100 = .ok (.getfield 190, 3) := by decide +kernel
theorem dX8_best_103 : decode cX8_best 103 = .ok (.iconst 0, 1) := by decide +kernel
theorem dX8_best_104 : decode cX8_best 104 = .ok (.iaload, 1) := by decide +kernel
theorem dX8_best_105 : decode cX8_best 105 = .ok (.if_icmp .ge 44, 3) := by decide +kernel
theorem dX8_best_108 : decode cX8_best 108 = .ok (.aload_n 0, 1) := by decide +kernel
theorem dX8_best_109 : decode cX8_best 109 = .ok (.getfield 59, 3) := by decide +kernel
theorem dX8_best_112 : decode cX8_best 112 = .ok (.invokevirtual 129, 3) := by decide +kernel
theorem dX8_best_115 : decode cX8_best 115 = .ok (.aload_n 0, 1) := by decide +kernel
theorem dX8_best_116 : decode cX8_best 116 = .ok (.getfield 46, 3) := by decide +kernel
theorem dX8_best_119 : decode cX8_best 119 = .ok (.aload_n 0, 1) := by decide +kernel
theorem dX8_best_120 : decode cX8_best 120 = .ok (.getfield 59, 3) := by decide +kernel
theorem dX8_best_123 : decode cX8_best 123 = .ok (.invokevirtual 183, 3) := by decide +kernel
theorem dX8_best_126 : decode cX8_best 126 = .ok (.istore 8, 2) := by decide +kernel
theorem dX8_best_128 : decode cX8_best 128 = .ok (.iload 5, 2) := by decide +kernel
theorem dX8_best_130 : decode cX8_best 130 = .ok (.iconst (-1), 1) := by decide +kernel
theorem dX8_best_131 : decode cX8_best 131 = .ok (.if_icmp .eq 10, 3) := by decide +kernel
theorem dX8_best_134 : decode cX8_best 134 = .ok (.iload 8, 2) := by decide +kernel
theorem dX8_best_136 : decode cX8_best 136 = .ok (.iload 6, 2) := by decide +kernel
theorem dX8_best_138 : decode cX8_best 138 = .ok (.if_icmp .ge 11, 3) := by decide +kernel
theorem dX8_best_141 : decode cX8_best 141 = .ok (.iload 7, 2) := by decide +kernel
theorem dX8_best_143 : decode cX8_best 143 = .ok (.istore 5, 2) := by decide +kernel
theorem dX8_best_145 : decode cX8_best 145 = .ok (.iload 8, 2) := by decide +kernel
theorem dX8_best_147 : decode cX8_best 147 = .ok (.istore 6, 2) := by decide +kernel
theorem dX8_best_149 : decode cX8_best 149 = .ok (.iinc 7 1, 3) := by decide +kernel
theorem dX8_best_152 : decode cX8_best 152 = .ok (.goto (-95), 3) := by decide +kernel
theorem dX8_best_155 : decode cX8_best 155 = .ok (.iload 5, 2) := by decide +kernel
theorem dX8_best_157 : decode cX8_best 157 = .ok (.ireturn, 1) := by decide +kernel
theorem dX8_count_0 : decode cX8_count 0 = .ok (.iload_n 1, 1) := by decide +kernel
theorem dX8_count_1 : decode cX8_count 1 = .ok (.tableswitch 48 0 2 #[27, 35, 43], 27) := by decide +kernel
theorem dX8_count_28 : decode cX8_count 28 = .ok (.aload_n 0, 1) := by decide +kernel
theorem dX8_count_29 : decode cX8_count 29 = .ok (.getfield 39, 3) := by decide +kernel
theorem dX8_count_32 : decode cX8_count 32 = .ok (.getfield 191, 3) := by decide +kernel
theorem dX8_count_35 : decode cX8_count 35 = .ok (.ireturn, 1) := by decide +kernel
theorem dX8_count_36 : decode cX8_count 36 = .ok (.aload_n 0, 1) := by decide +kernel
theorem dX8_count_37 : decode cX8_count 37 = .ok (.getfield 10, 3) := by decide +kernel
theorem dX8_count_40 : decode cX8_count 40 = .ok (.getfield 69, 3) := by decide +kernel
theorem dX8_count_43 : decode cX8_count 43 = .ok (.ireturn, 1) := by decide +kernel
theorem dX8_count_44 : decode cX8_count 44 = .ok (.aload_n 0, 1) := by decide +kernel
theorem dX8_count_45 : decode cX8_count 45 = .ok (.getfield 65, 3) := by decide +kernel
theorem dX8_count_48 : decode cX8_count 48 = .ok (.ireturn, 1) := by decide +kernel
theorem dX8_count_49 : decode cX8_count 49 = .ok (.iconst (-1), 1) := by decide +kernel
theorem dX8_count_50 : decode cX8_count 50 = .ok (.ireturn, 1) := by decide +kernel
theorem dX8_isRelease_0 : decode cX8_isRelease 0 = .ok (.aload_n 0, 1) := by decide +kernel
theorem dX8_isRelease_1 : decode cX8_isRelease 1 = .ok (.getfield 65, 3) := by decide +kernel
theorem dX8_isRelease_4 : decode cX8_isRelease 4 = .ok (.iconst (-1), 1) := by decide +kernel
theorem dX8_isRelease_5 : decode cX8_isRelease 5 = .ok (.if_icmp .eq 25, 3) := by decide +kernel
theorem dX8_isRelease_8 : decode cX8_isRelease 8 = .ok (.iload_n 1, 1) := by decide +kernel
theorem dX8_isRelease_9 : decode cX8_isRelease 9 = .ok (.ifCond .lt 21, 3) := by decide +kernel
theorem dX8_isRelease_12 : decode cX8_isRelease 12 = .ok (.iload_n 1, 1) := by decide +kernel
theorem dX8_isRelease_13 : decode cX8_isRelease 13 = .ok (.aload_n 0, 1) := by decide +kernel
theorem dX8_isRelease_14 : decode cX8_isRelease 14 = .ok (.getfield 55, 3) := by decide +kernel
theorem dX8_isRelease_17 : decode cX8_isRelease 17 = .ok (.getfield 132, 3) := by decide +kernel
theorem dX8_isRelease_20 : decode cX8_isRelease 20 = .ok (.getfield 136, 3) := by decide +kernel
theorem dX8_isRelease_23 : decode cX8_isRelease 23 = .ok (.if_icmp .ge 7, 3) := by decide +kernel
theorem dX8_isRelease_26 : decode cX8_isRelease 26 = .ok (.iconst 1, 1) := by decide +kernel
theorem dX8_isRelease_27 : decode cX8_isRelease 27 = .ok (.goto 4, 3) := by decide +kernel
theorem dX8_isRelease_30 : decode cX8_isRelease 30 = .ok (.iconst 0, 1) := by decide +kernel
theorem dX8_isRelease_31 : decode cX8_isRelease 31 = .ok (.ireturn, 1) := by decide +kernel
theorem dX8_isWay_0 : decode cX8_isWay 0 = .ok (.iload_n 0, 1) := by decide +kernel
theorem dX8_isWay_1 : decode cX8_isWay 1 = .ok (.ifCond .lt 12, 3) := by decide +kernel
theorem dX8_isWay_4 : decode cX8_isWay 4 = .ok (.iload_n 0, 1) := by decide +kernel
theorem dX8_isWay_5 : decode cX8_isWay 5 = .ok (.iconst 4, 1) := by decide +kernel
theorem dX8_isWay_6 : decode cX8_isWay 6 = .ok (.if_icmp .ge 7, 3) := by decide +kernel
theorem dX8_isWay_9 : decode cX8_isWay 9 = .ok (.iconst 1, 1) := by decide +kernel
theorem dX8_isWay_10 : decode cX8_isWay 10 = .ok (.goto 4, 3) := by decide +kernel
theorem dX8_isWay_13 : decode cX8_isWay 13 = .ok (.iconst 0, 1) := by decide +kernel
theorem dX8_isWay_14 : decode cX8_isWay 14 = .ok (.ireturn, 1) := by decide +kernel
theorem dX8_isPrice_0 : decode cX8_isPrice 0 = .ok (.iload_n 0, 1) := by decide +kernel
theorem dX8_isPrice_1 : decode cX8_isPrice 1 = .ok (.ifCond .lt 14, 3) := by decide +kernel
theorem dX8_isPrice_4 : decode cX8_isPrice 4 = .ok (.iload_n 0, 1) := by decide +kernel
theorem dX8_isPrice_5 : decode cX8_isPrice 5 = .ok (.sipush 1000, 3) := by decide +kernel
theorem dX8_isPrice_8 : decode cX8_isPrice 8 = .ok (.if_icmp .gt 7, 3) := by decide +kernel
theorem dX8_isPrice_11 : decode cX8_isPrice 11 = .ok (.iconst 1, 1) := by decide +kernel
theorem dX8_isPrice_12 : decode cX8_isPrice 12 = .ok (.goto 4, 3) := by decide +kernel
theorem dX8_isPrice_15 : decode cX8_isPrice 15 = .ok (.iconst 0, 1) := by decide +kernel
theorem dX8_isPrice_16 : decode cX8_isPrice 16 = .ok (.ireturn, 1) := by decide +kernel
theorem dX8_isWithinBounds_0 : decode cX8_isWithinBounds 0 = .ok (.iload_n 1, 1) := by decide +kernel
theorem dX8_isWithinBounds_1 : decode cX8_isWithinBounds 1 = .ok (.getstatic 194, 3) := by decide +kernel
theorem dX8_isWithinBounds_4 : decode cX8_isWithinBounds 4 = .ok (.iload_n 0, 1) := by decide +kernel
theorem dX8_isWithinBounds_5 : decode cX8_isWithinBounds 5 = .ok (.iaload, 1) := by decide +kernel
theorem dX8_isWithinBounds_6 : decode cX8_isWithinBounds 6 = .ok (.if_icmp .lt 16, 3) := by decide +kernel
theorem dX8_isWithinBounds_9 : decode cX8_isWithinBounds 9 = .ok (.iload_n 1, 1) := by decide +kernel
theorem dX8_isWithinBounds_10 : decode cX8_isWithinBounds 10 = .ok (.getstatic 197, 3) := by decide +kernel
theorem dX8_isWithinBounds_13 : decode cX8_isWithinBounds 13 = .ok (.iload_n 0, 1) := by decide +kernel
theorem dX8_isWithinBounds_14 : decode cX8_isWithinBounds 14 = .ok (.iaload, 1) := by decide +kernel
theorem dX8_isWithinBounds_15 : decode cX8_isWithinBounds 15 = .ok (.if_icmp .gt 7, 3) := by decide +kernel
theorem dX8_isWithinBounds_18 : decode cX8_isWithinBounds 18 = .ok (.iconst 1, 1) := by decide +kernel
theorem dX8_isWithinBounds_19 : decode cX8_isWithinBounds 19 = .ok (.goto 4, 3) := by decide +kernel
theorem dX8_isWithinBounds_22 : decode cX8_isWithinBounds 22 = .ok (.iconst 0, 1) := by decide +kernel
theorem dX8_isWithinBounds_23 : decode cX8_isWithinBounds 23 = .ok (.ireturn, 1) := by decide +kernel
theorem dX8_isIn_0 : decode cX8_isIn 0 = .ok (.lload_n 0, 1) := by decide +kernel
theorem dX8_isIn_1 : decode cX8_isIn 1 = .ok (.iload_n 2, 1) := by decide +kernel
theorem dX8_isIn_2 : decode cX8_isIn 2 = .ok (.lushr, 1) := by decide +kernel
theorem dX8_isIn_3 : decode cX8_isIn 3 = .ok (.lconst 1, 1) := by decide +kernel
theorem dX8_isIn_4 : decode cX8_isIn 4 = .ok (.land, 1) := by decide +kernel
theorem dX8_isIn_5 : decode cX8_isIn 5 = .ok (.lconst 0, 1) := by decide +kernel
theorem dX8_isIn_6 : decode cX8_isIn 6 = .ok (.lcmp, 1) := by decide +kernel
theorem dX8_isIn_7 : decode cX8_isIn 7 = .ok (.ifCond .eq 7, 3) := by decide +kernel
theorem dX8_isIn_10 : decode cX8_isIn 10 = .ok (.iconst 1, 1) := by decide +kernel
theorem dX8_isIn_11 : decode cX8_isIn 11 = .ok (.goto 4, 3) := by decide +kernel
theorem dX8_isIn_14 : decode cX8_isIn 14 = .ok (.iconst 0, 1) := by decide +kernel
theorem dX8_isIn_15 : decode cX8_isIn 15 = .ok (.ireturn, 1) := by decide +kernel
theorem dX8_only_0 : decode cX8_only 0 = .ok (.lconst 1, 1) := by decide +kernel
theorem dX8_only_1 : decode cX8_only 1 = .ok (.iload_n 0, 1) := by decide +kernel
theorem dX8_only_2 : decode cX8_only 2 = .ok (.lshl, 1) := by decide +kernel
theorem dX8_only_3 : decode cX8_only 3 = .ok (.lreturn, 1) := by decide +kernel
set_option maxRecDepth 20000 in
theorem ggX9_init_X9_plain : GoodIn wsX9_init wsX9_plain := goodIn_r _ [46] rfl (by decide +kernel)
set_option maxRecDepth 20000 in
theorem gX9_init_X9_plain : GoodIn wsX9_init (va_wsS RX9 119 yX9_plain wsX9_plain) := goodIn_app (goodIn_r _ [43, 44, 45] rfl (by decide +kernel)) ggX9_init_X9_plain
theorem dX9_init_0 : decode cX9_init 0 = .ok (.aload_n 0, 1) := by decide +kernel
theorem dX9_init_1 : decode cX9_init 1 = .ok (.invokespecial 1, 3) := by decide +kernel
theorem dX9_init_4 : decode cX9_init 4 = .ok (.aload_n 0, 1) := by decide +kernel
theorem dX9_init_5 : decode cX9_init 5 = .ok (.sipush 600, 3) := by decide +kernel
theorem dX9_init_8 : decode cX9_init 8 = .ok (.newarray .byte, 2) := by decide +kernel
theorem dX9_init_10 : decode cX9_init 10 = .ok (.putfield 7, 3) := by decide +kernel
theorem dX9_init_13 : decode cX9_init 13 = .ok (.aload_n 0, 1) := by decide +kernel
theorem dX9_init_14 : decode cX9_init 14 = .ok (.iconst (-1), 1) := by decide +kernel
theorem dX9_init_15 : decode cX9_init 15 = .ok (.putfield 13, 3) := by decide +kernel
theorem dX9_init_18 : decode cX9_init 18 = .ok (.aload_n 0, 1) := by decide +kernel
theorem dX9_init_19 : decode cX9_init 19 = .ok (.bipush 48, 2) := by decide +kernel
theorem dX9_init_21 : decode cX9_init 21 = .ok (.newarray .int, 2) := by decide +kernel
theorem dX9_init_23 : decode cX9_init 23 = .ok (.putfield 17, 3) := by decide +kernel
theorem dX9_init_26 : decode cX9_init 26 = .ok (.aload_n 0, 1) := by decide +kernel
theorem dX9_init_27 : decode cX9_init 27 = .ok (.bipush 60, 2) := by decide +kernel
theorem dX9_init_29 : decode cX9_init 29 = .ok (.newarray .int, 2) := by decide +kernel
theorem dX9_init_31 : decode cX9_init 31 = .ok (.putfield 21, 3) := by decide +kernel
theorem dX9_init_34 : decode cX9_init 34 = .ok (.aload_n 0, 1) := by decide +kernel
theorem dX9_init_35 : decode cX9_init 35 = .ok (.bipush 60, 2) := by decide +kernel
theorem dX9_init_37 : decode cX9_init 37 = .ok (.newarray .int, 2) := by decide +kernel
theorem dX9_init_39 : decode cX9_init 39 = .ok (.putfield 24, 3) := by decide +kernel
theorem dX9_init_42 : decode cX9_init 42 = .ok (.aload_n 0, 1) := by decide +kernel
theorem dX9_init_43 : decode cX9_init 43 = .ok (.bipush 60, 2) := by decide +kernel
theorem dX9_init_45 : decode cX9_init 45 = .ok (.newarray .int, 2) := by decide +kernel
theorem dX9_init_47 : decode cX9_init 47 = .ok (.putfield 27, 3) := by decide +kernel
theorem dX9_init_50 : decode cX9_init 50 = .ok (.aload_n 0, 1) := by decide +kernel
theorem dX9_init_51 : decode cX9_init 51 = .ok (.bipush 60, 2) := by decide +kernel
theorem dX9_init_53 : decode cX9_init 53 = .ok (.newarray .int, 2) := by decide +kernel
theorem dX9_init_55 : decode cX9_init 55 = .ok (.putfield 30, 3) := by decide +kernel
theorem dX9_init_58 : decode cX9_init 58 = .ok (.aload_n 0, 1) := by decide +kernel
theorem dX9_init_59 : decode cX9_init 59 = .ok (.bipush 60, 2) := by decide +kernel
theorem dX9_init_61 : decode cX9_init 61 = .ok (.newarray .int, 2) := by decide +kernel
theorem dX9_init_63 : decode cX9_init 63 = .ok (.putfield 33, 3) := by decide +kernel
theorem dX9_init_66 : decode cX9_init 66 = .ok (.aload_n 0, 1) := by decide +kernel
theorem dX9_init_67 : decode cX9_init 67 = .ok (.bipush 60, 2) := by decide +kernel
theorem dX9_init_69 : decode cX9_init 69 = .ok (.newarray .int, 2) := by decide +kernel
theorem dX9_init_71 : decode cX9_init 71 = .ok (.putfield 36, 3) := by decide +kernel
theorem dX9_init_74 : decode cX9_init 74 = .ok (.aload_n 0, 1) := by decide +kernel
theorem dX9_init_75 : decode cX9_init 75 = .ok (.sipush 180, 3) := by decide +kernel
theorem dX9_init_78 : decode cX9_init 78 = .ok (.newarray .int, 2) := by decide +kernel
theorem dX9_init_80 : decode cX9_init 80 = .ok (.putfield 39, 3) := by decide +kernel
theorem dX9_init_83 : decode cX9_init 83 = .ok (.aload_n 0, 1) := by decide +kernel
theorem dX9_init_84 : decode cX9_init 84 = .ok (.bipush 60, 2) := by decide +kernel
theorem dX9_init_86 : decode cX9_init 86 = .ok (.newarray .int, 2) := by decide +kernel
theorem dX9_init_88 : decode cX9_init 88 = .ok (.putfield 42, 3) := by decide +kernel
theorem dX9_init_91 : decode cX9_init 91 = .ok (.aload_n 0, 1) := by decide +kernel
theorem dX9_init_92 : decode cX9_init 92 = .ok (.sipush 180, 3) := by decide +kernel
theorem dX9_init_95 : decode cX9_init 95 = .ok (.newarray .int, 2) := by decide +kernel
theorem dX9_init_97 : decode cX9_init 97 = .ok (.putfield 45, 3) := by decide +kernel
theorem dX9_init_100 : decode cX9_init 100 = .ok (.aload_n 0, 1) := by decide +kernel
theorem dX9_init_101 : decode cX9_init 101 = .ok (.sipush 180, 3) := by decide +kernel
theorem dX9_init_104 : decode cX9_init 104 = .ok (.newarray .int, 2) := by decide +kernel
theorem dX9_init_106 : decode cX9_init 106 = .ok (.putfield 48, 3) := by decide +kernel
theorem dX9_init_109 : decode cX9_init 109 = .ok (.aload_n 0, 1) := by decide +kernel
theorem dX9_init_110 : decode cX9_init 110 = .ok (.sipush 180, 3) := by decide +kernel
theorem dX9_init_113 : decode cX9_init 113 = .ok (.newarray .int, 2) := by decide +kernel
theorem dX9_init_115 : decode cX9_init 115 = .ok (.putfield 51, 3) := by decide +kernel
theorem dX9_init_118 : decode cX9_init 118 = .ok (.aload_n 0, 1) := by decide +kernel
theorem dX9_init_119 : decode cX9_init 119 = .ok (.sipush 180, 3) := by decide +kernel
theorem dX9_init_122 : decode cX9_init 122 = .ok (.newarray .int, 2) := by decide +kernel
theorem dX9_init_124 : decode cX9_init 124 = .ok (.putfield 54, 3) := by decide +kernel
theorem dX9_init_127 : decode cX9_init 127 = .ok (.aload_n 0, 1) := by decide +kernel
theorem dX9_init_128 : decode cX9_init 128 = .ok (.sipush 180, 3) := by decide +kernel
theorem dX9_init_131 : decode cX9_init 131 = .ok (.newarray .int, 2) := by decide +kernel
theorem dX9_init_133 : decode cX9_init 133 = .ok (.putfield 57, 3) := by decide +kernel
theorem dX9_init_136 : decode cX9_init 136 = .ok (.aload_n 0, 1) := by decide +kernel
theorem dX9_init_137 : decode cX9_init 137 = .ok (.sipush 180, 3) := by decide +kernel
theorem dX9_init_140 : decode cX9_init 140 = .ok (.newarray .int, 2) := by decide +kernel
theorem dX9_init_142 : decode cX9_init 142 = .ok (.putfield 60, 3) := by decide +kernel
theorem dX9_init_145 : decode cX9_init 145 = .ok (.aload_n 0, 1) := by decide +kernel
theorem dX9_init_146 : decode cX9_init 146 = .ok (.sipush 180, 3) := by decide +kernel
theorem dX9_init_149 : decode cX9_init 149 = .ok (.newarray .int, 2) := by decide +kernel
theorem dX9_init_151 : decode cX9_init 151 = .ok (.putfield 63, 3) := by decide +kernel
theorem dX9_init_154 : decode cX9_init 154 = .ok (.aload_n 0, 1) := by decide +kernel
theorem dX9_init_155 : decode cX9_init 155 = .ok (.sipush 180, 3) := by decide +kernel
theorem dX9_init_158 : decode cX9_init 158 = .ok (.newarray .int, 2) := by decide +kernel
theorem dX9_init_160 : decode cX9_init 160 = .ok (.putfield 66, 3) := by decide +kernel
theorem dX9_init_163 : decode cX9_init 163 = .ok (.aload_n 0, 1) := by decide +kernel
theorem dX9_init_164 : decode cX9_init 164 = .ok (.sipush 180, 3) := by decide +kernel
theorem dX9_init_167 : decode cX9_init 167 = .ok (.newarray .int, 2) := by decide +kernel
theorem dX9_init_169 : decode cX9_init 169 = .ok (.putfield 69, 3) := by decide +kernel
theorem dX9_init_172 : decode cX9_init 172 = .ok (.aload_n 0, 1) := by decide +kernel
theorem dX9_init_173 : decode cX9_init 173 = .ok (.sipush 180, 3) := by decide +kernel
theorem dX9_init_176 : decode cX9_init 176 = .ok (.newarray .int, 2) := by decide +kernel
theorem dX9_init_178 : decode cX9_init 178 = .ok (.putfield 72, 3) := by decide +kernel
theorem dX9_init_181 : decode cX9_init 181 = .ok (.aload_n 0, 1) := by decide +kernel
theorem dX9_init_182 : decode cX9_init 182 = .ok (.iconst 3, 1) := by decide +kernel
theorem dX9_init_183 : decode cX9_init 183 = .ok (.newarray .int, 2) := by decide +kernel
theorem dX9_init_185 : decode cX9_init 185 = .ok (.putfield 75, 3) := by decide +kernel
theorem dX9_init_188 : decode cX9_init 188 = .ok (.aload_n 0, 1) := by decide +kernel
theorem dX9_init_189 : decode cX9_init 189 = .ok (.iconst 3, 1) := by decide +kernel
theorem dX9_init_190 : decode cX9_init 190 = .ok (.newarray .long, 2) := by decide +kernel
theorem dX9_init_192 : decode cX9_init 192 = .ok (.putfield 78, 3) := by decide +kernel
theorem dX9_init_195 : decode cX9_init 195 = .ok (.aload_n 0, 1) := by decide +kernel
theorem dX9_init_196 : decode cX9_init 196 = .ok (.iconst 3, 1) := by decide +kernel
theorem dX9_init_197 : decode cX9_init 197 = .ok (.newarray .long, 2) := by decide +kernel
theorem dX9_init_199 : decode cX9_init 199 = .ok (.putfield 82, 3) := by decide +kernel
theorem dX9_init_202 : decode cX9_init 202 = .ok (.aload_n 0, 1) := by decide +kernel
theorem dX9_init_203 : decode cX9_init 203 = .ok (.iconst 3, 1) := by decide +kernel
theorem dX9_init_204 : decode cX9_init 204 = .ok (.newarray .boolean, 2) := by decide +kernel
theorem dX9_init_206 : decode cX9_init 206 = .ok (.putfield 85, 3) := by decide +kernel
theorem dX9_init_209 : decode cX9_init 209 = .ok (.aload_n 0, 1) := by decide +kernel
theorem dX9_init_210 : decode cX9_init 210 = .ok (.iconst 3, 1) := by decide +kernel
theorem dX9_init_211 : decode cX9_init 211 = .ok (.newarray .int, 2) := by decide +kernel
theorem dX9_init_213 : decode cX9_init 213 = .ok (.putfield 89, 3) := by decide +kernel
theorem dX9_init_216 : decode cX9_init 216 = .ok (.aload_n 0, 1) := by decide +kernel
theorem dX9_init_217 : decode cX9_init 217 = .ok (.iconst 3, 1) := by decide +kernel
theorem dX9_init_218 : decode cX9_init 218 = .ok (.newarray .int, 2) := by decide +kernel
theorem dX9_init_220 : decode cX9_init 220 = .ok (.putfield 92, 3) := by decide +kernel
theorem dX9_init_223 : decode cX9_init 223 = .ok (.aload_n 0, 1) := by decide +kernel
theorem dX9_init_224 : decode cX9_init 224 = .ok (.sipush 810, 3) := by decide +kernel
theorem dX9_init_227 : decode cX9_init 227 = .ok (.newarray .int, 2) := by decide +kernel
theorem dX9_init_229 : decode cX9_init 229 = .ok (.putfield 95, 3) := by decide +kernel
theorem dX9_init_232 : decode cX9_init 232 = .ok (.aload_n 0, 1) := by decide +kernel
theorem dX9_init_233 : decode cX9_init 233 = .ok (.sipush 810, 3) := by decide +kernel
theorem dX9_init_236 : decode cX9_init 236 = .ok (.newarray .boolean, 2) := by decide +kernel
theorem dX9_init_238 : decode cX9_init 238 = .ok (.putfield 98, 3) := by decide +kernel
theorem dX9_init_241 : decode cX9_init 241 = .ok (.aload_n 0, 1) := by decide +kernel
theorem dX9_init_242 : decode cX9_init 242 = .ok (.sipush 810, 3) := by decide +kernel
theorem dX9_init_245 : decode cX9_init 245 = .ok (.newarray .long, 2) := by decide +kernel
theorem dX9_init_247 : decode cX9_init 247 = .ok (.putfield 101, 3) := by decide +kernel
theorem dX9_init_250 : decode cX9_init 250 = .ok (.aload_n 0, 1) := by decide +kernel
theorem dX9_init_251 : decode cX9_init 251 = .ok (.sipush 810, 3) := by decide +kernel
theorem dX9_init_254 : decode cX9_init 254 = .ok (.newarray .int, 2) := by decide +kernel
theorem dX9_init_256 : decode cX9_init 256 = .ok (.putfield 104, 3) := by decide +kernel
theorem dX9_init_259 : decode cX9_init 259 = .ok (.aload_n 0, 1) := by decide +kernel
theorem dX9_init_260 : decode cX9_init 260 = .ok (.iconst 3, 1) := by decide +kernel
theorem dX9_init_261 : decode cX9_init 261 = .ok (.newarray .int, 2) := by decide +kernel
theorem dX9_init_263 : decode cX9_init 263 = .ok (.putfield 107, 3) := by decide +kernel
theorem dX9_init_266 : decode cX9_init 266 = .ok (.aload_n 0, 1) := by decide +kernel
theorem dX9_init_267 : decode cX9_init 267 = .ok (.bipush 60, 2) := by decide +kernel
theorem dX9_init_269 : decode cX9_init 269 = .ok (.newarray .int, 2) := by decide +kernel
theorem dX9_init_271 : decode cX9_init 271 = .ok (.putfield 110, 3) := by decide +kernel
theorem dX9_init_274 : decode cX9_init 274 = .ok (.aload_n 0, 1) := by decide +kernel
theorem dX9_init_275 : decode cX9_init 275 = .ok (.iconst (-1), 1) := by decide +kernel
theorem dX9_init_276 : decode cX9_init 276 = .ok (.putfield 113, 3) := by decide +kernel
theorem dX9_init_279 : decode cX9_init 279 = .ok (.aload_n 0, 1) := by decide +kernel
theorem dX9_init_280 : decode cX9_init 280 = .ok (.iconst 4, 1) := by decide +kernel
theorem dX9_init_281 : decode cX9_init 281 = .ok (.newarray .int, 2) := by decide +kernel
theorem dX9_init_283 : decode cX9_init 283 = .ok (.putfield 116, 3) := by decide +kernel
theorem dX9_init_286 : decode cX9_init 286 = .ok (.iconst 0, 1) := by decide +kernel
theorem dX9_init_287 : decode cX9_init 287 = .ok (.istore_n 1, 1) := by decide +kernel
theorem dX9_init_288 : decode cX9_init 288 = .ok (.iload_n 1, 1) := by decide +kernel
theorem dX9_init_289 : decode cX9_init 289 = .ok (.iconst 4, 1) := by decide +kernel
theorem dX9_init_290 : decode cX9_init 290 = .ok (.if_icmp .ge 38, 3) := by decide +kernel
theorem dX9_init_293 : decode cX9_init 293 = .ok (.iconst 0, 1) := by decide +kernel
theorem dX9_init_294 : decode cX9_init 294 = .ok (.istore_n 2, 1) := by decide +kernel
theorem dX9_init_295 : decode cX9_init 295 = .ok (.iload_n 2, 1) := by decide +kernel
theorem dX9_init_296 : decode cX9_init 296 = .ok (.bipush 8, 2) := by decide +kernel
theorem dX9_init_298 : decode cX9_init 298 = .ok (.if_icmp .ge 24, 3) := by decide +kernel
theorem dX9_init_301 : decode cX9_init 301 = .ok (.aload_n 0, 1) := by decide +kernel
theorem dX9_init_302 : decode cX9_init 302 = .ok (.getfield 17, 3) := by decide +kernel
theorem dX9_init_305 : decode cX9_init 305 = .ok (.bipush 8, 2) := by decide +kernel
theorem dX9_init_307 : decode cX9_init 307 = .ok (.iload_n 1, 1) := by decide +kernel
theorem dX9_init_308 : decode cX9_init 308 = .ok (.imul, 1) := by decide +kernel
theorem dX9_init_309 : decode cX9_init 309 = .ok (.iload_n 2, 1) := by decide +kernel
theorem dX9_init_310 : decode cX9_init 310 = .ok (.iadd, 1) := by decide +kernel
theorem dX9_init_311 : decode cX9_init 311 = .ok (.iload_n 2, 1) := by decide +kernel
theorem dX9_init_312 : decode cX9_init 312 = .ok (.invokestatic 119, 3) := by decide +kernel
theorem dX9_init_315 : decode cX9_init 315 = .ok (.iastore, 1) := by decide +kernel
theorem dX9_init_316 : decode cX9_init 316 = .ok (.iinc 2 1, 3) := by decide +kernel
theorem dX9_init_319 : decode cX9_init 319 = .ok (.goto (-24), 3) := by decide +kernel
theorem dX9_init_322 : decode cX9_init 322 = .ok (.iinc 1 1, 3) := by decide +kernel
theorem dX9_init_325 : decode cX9_init 325 = .ok (.goto (-37), 3) := by decide +kernel
theorem dX9_init_328 : decode cX9_init 328 = .ok (.aload_n 0, 1) := by decide +kernel
theorem dX9_init_329 : decode cX9_init 329 = .ok (.getfield 116, 3) := by decide +kernel
theorem dX9_init_332 : decode cX9_init 332 = .ok (.iconst 0, 1) := by decide +kernel
theorem dX9_init_333 : decode cX9_init 333 = .ok (.iconst 1, 1) := by decide +kernel
theorem dX9_init_334 : decode cX9_init 334 = .ok (.iastore, 1) := by decide +kernel
theorem dX9_init_335 : decode cX9_init 335 = .ok (.aload_n 0, 1) := by decide +kernel
theorem dX9_init_336 : decode cX9_init 336 = .ok (.getfield 116, 3) := by decide +kernel
theorem dX9_init_339 : decode cX9_init 339 = .ok (.iconst 1, 1) := by decide +kernel
theorem dX9_init_340 : decode cX9_init 340 = .ok (.bipush 100, 2) := by decide +kernel
theorem dX9_init_342 : decode cX9_init 342 = .ok (.iastore, 1) := by decide +kernel
theorem dX9_init_343 : decode cX9_init 343 = .ok (.aload_n 0, 1) := by decide +kernel
theorem dX9_init_344 : decode cX9_init 344 = .ok (.getfield 116, 3) := by decide +kernel
theorem dX9_init_347 : decode cX9_init 347 = .ok (.iconst 2, 1) := by decide +kernel
theorem dX9_init_348 : decode cX9_init 348 = .ok (.iconst 2, 1) := by decide +kernel
theorem dX9_init_349 : decode cX9_init 349 = .ok (.iastore, 1) := by decide +kernel
theorem dX9_init_350 : decode cX9_init 350 = .ok (.aload_n 0, 1) := by decide +kernel
theorem dX9_init_351 : decode cX9_init 351 = .ok (.getfield 116, 3) := by decide +kernel
theorem dX9_init_354 : decode cX9_init 354 = .ok (.iconst 3, 1) := by decide +kernel
theorem dX9_init_355 : decode cX9_init 355 = .ok (.bipush 50, 2) := by decide +kernel
theorem dX9_init_357 : decode cX9_init 357 = .ok (.iastore, 1) := by decide +kernel
theorem dX9_init_358 : decode cX9_init 358 = .ok (.return_, 1) := by decide +kernel
theorem dX9_in_0 : decode cX9_in 0 = .ok (.iload_n 0, 1) := by decide +kernel
theorem dX9_in_1 : decode cX9_in 1 = .ok (.iload_n 1, 1) := by decide +kernel
theorem dX9_in_2 : decode cX9_in 2 = .ok (.if_icmp .lt 12, 3) := by decide +kernel
theorem dX9_in_5 : decode cX9_in 5 = .ok (.iload_n 0, 1) := by decide +kernel
theorem dX9_in_6 : decode cX9_in 6 = .ok (.iload_n 2, 1) := by decide +kernel
theorem dX9_in_7 : decode cX9_in 7 = .ok (.if_icmp .gt 7, 3) := by decide +kernel
theorem dX9_in_10 : decode cX9_in 10 = .ok (.iconst 1, 1) := by decide +kernel
theorem dX9_in_11 : decode cX9_in 11 = .ok (.goto 4, 3) := by decide +kernel
theorem dX9_in_14 : decode cX9_in 14 = .ok (.iconst 0, 1) := by decide +kernel
theorem dX9_in_15 : decode cX9_in 15 = .ok (.ireturn, 1) := by decide +kernel
theorem dX9_feed_0 : decode cX9_feed 0 = .ok (.aload_n 0, 1) := by decide +kernel
theorem dX9_feed_1 : decode cX9_feed 1 = .ok (.getfield 123, 3) := by decide +kernel
theorem dX9_feed_4 : decode cX9_feed 4 = .ok (.bipush 20, 2) := by decide +kernel
theorem dX9_feed_6 : decode cX9_feed 6 = .ok (.iadd, 1) := by decide +kernel
theorem dX9_feed_7 : decode cX9_feed 7 = .ok (.sipush 600, 3) := by decide +kernel
theorem dX9_feed_10 : decode cX9_feed 10 = .ok (.if_icmp .le 6, 3) := by decide +kernel
theorem dX9_feed_13 : decode cX9_feed 13 = .ok (.bipush (-3), 2) := by decide +kernel
theorem dX9_feed_15 : decode cX9_feed 15 = .ok (.ireturn, 1) := by decide +kernel
theorem dX9_feed_16 : decode cX9_feed 16 = .ok (.iconst 0, 1) := by decide +kernel
theorem dX9_feed_17 : decode cX9_feed 17 = .ok (.istore 6, 2) := by decide +kernel
theorem dX9_feed_19 : decode cX9_feed 19 = .ok (.iload 6, 2) := by decide +kernel
theorem dX9_feed_21 : decode cX9_feed 21 = .ok (.iconst 5, 1) := by decide +kernel
theorem dX9_feed_22 : decode cX9_feed 22 = .ok (.if_icmp .ge 93, 3) := by decide +kernel
theorem dX9_feed_25 : decode cX9_feed 25 = .ok (.iload 6, 2) := by decide +kernel
theorem dX9_feed_27 : decode cX9_feed 27 = .ok (.ifCond .ne 7, 3) := by decide +kernel
theorem dX9_feed_30 : decode cX9_feed 30 = .ok (.iload_n 1, 1) := by decide +kernel
theorem dX9_feed_31 : decode cX9_feed 31 = .ok (.goto 36, 3) := by decide +kernel
theorem dX9_feed_34 : decode cX9_feed 34 = .ok (.iload 6, 2) := by decide +kernel
theorem dX9_feed_36 : decode cX9_feed 36 = .ok (.iconst 1, 1) := by decide +kernel
theorem dX9_feed_37 : decode cX9_feed 37 = .ok (.if_icmp .ne 7, 3) := by decide +kernel
theorem dX9_feed_40 : decode cX9_feed 40 = .ok (.iload_n 2, 1) := by decide +kernel
theorem dX9_feed_41 : decode cX9_feed 41 = .ok (.goto 26, 3) := by decide +kernel
theorem dX9_feed_44 : decode cX9_feed 44 = .ok (.iload 6, 2) := by decide +kernel
theorem dX9_feed_46 : decode cX9_feed 46 = .ok (.iconst 2, 1) := by decide +kernel
theorem dX9_feed_47 : decode cX9_feed 47 = .ok (.if_icmp .ne 7, 3) := by decide +kernel
theorem dX9_feed_50 : decode cX9_feed 50 = .ok (.iload_n 3, 1) := by decide +kernel
theorem dX9_feed_51 : decode cX9_feed 51 = .ok (.goto 16, 3) := by decide +kernel
theorem dX9_feed_54 : decode cX9_feed 54 = .ok (.iload 6, 2) := by decide +kernel
theorem dX9_feed_56 : decode cX9_feed 56 = .ok (.iconst 3, 1) := by decide +kernel
theorem dX9_feed_57 : decode cX9_feed 57 = .ok (.if_icmp .ne 8, 3) := by decide +kernel
theorem dX9_feed_60 : decode cX9_feed 60 = .ok (.iload 4, 2) := by decide +kernel
theorem dX9_feed_62 : decode cX9_feed 62 = .ok (.goto 5, 3) := by decide +kernel
theorem dX9_feed_65 : decode cX9_feed 65 = .ok (.iload 5, 2) := by decide +kernel
theorem dX9_feed_67 : decode cX9_feed 67 = .ok (.istore 7, 2) := by decide +kernel
theorem dX9_feed_69 : decode cX9_feed 69 = .ok (.bipush 24, 2) := by decide +kernel
theorem dX9_feed_71 : decode cX9_feed 71 = .ok (.istore 8, 2) := by decide +kernel
theorem dX9_feed_73 : decode cX9_feed 73 = .ok (.iload 8, 2) := by decide +kernel
theorem dX9_feed_75 : decode cX9_feed 75 = .ok (.ifCond .lt 34, 3) := by decide +kernel
theorem dX9_feed_78 : decode cX9_feed 78 = .ok (.aload_n 0, 1) := by decide +kernel
theorem dX9_feed_79 : decode cX9_feed 79 = .ok (.getfield 7, 3) := by decide +kernel
theorem dX9_feed_82 : decode cX9_feed 82 = .ok (.aload_n 0, 1) := by decide +kernel
theorem dX9_feed_83 : decode cX9_feed 83 = .ok (.getfield 123, 3) := by decide +kernel
theorem dX9_feed_86 : decode cX9_feed 86 = .ok (.iload 7, 2) := by decide +kernel
theorem dX9_feed_88 : decode cX9_feed 88 = .ok (.iload 8, 2) := by decide +kernel
theorem dX9_feed_90 : decode cX9_feed 90 = .ok (.ishr, 1) := by decide +kernel
theorem dX9_feed_91 : decode cX9_feed 91 = .ok (.i2b, 1) := by decide +kernel
theorem dX9_feed_92 : decode cX9_feed 92 = .ok (.bastore, 1) := by decide +kernel
theorem dX9_feed_93 : decode cX9_feed 93 = .ok (.aload_n 0, 1) := by decide +kernel
theorem dX9_feed_94 : decode cX9_feed 94 = .ok (.dup, 1) := by decide +kernel
theorem dX9_feed_95 : decode cX9_feed 95 = .ok (.getfield 123, 3) := by decide +kernel
theorem dX9_feed_98 : decode cX9_feed 98 = .ok (.iconst 1, 1) := by decide +kernel
theorem dX9_feed_99 : decode cX9_feed 99 = .ok (.iadd, 1) := by decide +kernel
theorem dX9_feed_100 : decode cX9_feed 100 = .ok (.putfield 123, 3) := by decide +kernel
theorem dX9_feed_103 : decode cX9_feed 103 = .ok (.iinc 8 (-8), 3) := by decide +kernel
theorem dX9_feed_106 : decode cX9_feed 106 = .ok (.goto (-33), 3) := by decide +kernel
theorem dX9_feed_109 : decode cX9_feed 109 = .ok (.iinc 6 1, 3) := by decide +kernel
theorem dX9_feed_112 : decode cX9_feed 112 = .ok (.goto (-93), 3) := by decide +kernel
theorem dX9_feed_115 : decode cX9_feed 115 = .ok (.aload_n 0, 1) := by decide +kernel
theorem dX9_feed_116 : decode cX9_feed 116 = .ok (.getfield 123, 3) := by decide +kernel
theorem dX9_feed_119 : decode cX9_feed 119 = .ok (.ireturn, 1) := by decide +kernel
theorem dX9_end_0 : decode cX9_end 0 = .ok (.iload_n 1, 1) := by decide +kernel
theorem dX9_end_1 : decode cX9_end 1 = .ok (.ifCond .lt 11, 3) := by decide +kernel
theorem dX9_end_4 : decode cX9_end 4 = .ok (.iload_n 1, 1) := by decide +kernel
theorem dX9_end_5 : decode cX9_end 5 = .ok (.aload_n 0, 1) := by decide +kernel
theorem dX9_end_6 : decode cX9_end 6 = .ok (.getfield 123, 3) := by decide +kernel
theorem dX9_end_9 : decode cX9_end 9 = .ok (.if_icmp .le 5, 3) := by decide +kernel
theorem dX9_end_12 : decode cX9_end 12 = .ok (.iconst (-1), 1) := by decide +kernel
theorem dX9_end_13 : decode cX9_end 13 = .ok (.ireturn, 1) := by decide +kernel
theorem dX9_end_14 : decode cX9_end 14 = .ok (.aload_n 0, 1) := by decide +kernel
theorem dX9_end_15 : decode cX9_end 15 = .ok (.iload_n 1, 1) := by decide +kernel
theorem dX9_end_16 : decode cX9_end 16 = .ok (.putfield 123, 3) := by decide +kernel
theorem dX9_end_19 : decode cX9_end 19 = .ok (.iload_n 1, 1) := by decide +kernel
theorem dX9_end_20 : decode cX9_end 20 = .ok (.ireturn, 1) := by decide +kernel
theorem dX9_see_0 : decode cX9_see 0 = .ok (.iload_n 1, 1) := by decide +kernel
theorem dX9_see_1 : decode cX9_see 1 = .ok (.aload_n 0, 1) := by decide +kernel
theorem dX9_see_2 : decode cX9_see 2 = .ok (.getfield 126, 3) := by decide +kernel
theorem dX9_see_5 : decode cX9_see 5 = .ok (.if_icmp .ge 16, 3) := by decide +kernel
theorem dX9_see_8 : decode cX9_see 8 = .ok (.aload_n 0, 1) := by decide +kernel
theorem dX9_see_9 : decode cX9_see 9 = .ok (.getfield 7, 3) := by decide +kernel
theorem dX9_see_12 : decode cX9_see 12 = .ok (.iload_n 1, 1) := by decide +kernel
theorem dX9_see_13 : decode cX9_see 13 = .ok (.baload, 1) := by decide +kernel
theorem dX9_see_14 : decode cX9_see 14 = .ok (.sipush 255, 3) := by decide +kernel
theorem dX9_see_17 : decode cX9_see 17 = .ok (.iand, 1) := by decide +kernel
theorem dX9_see_18 : decode cX9_see 18 = .ok (.goto 4, 3) := by decide +kernel
theorem dX9_see_21 : decode cX9_see 21 = .ok (.iconst (-1), 1) := by decide +kernel
theorem dX9_see_22 : decode cX9_see 22 = .ok (.ireturn, 1) := by decide +kernel
theorem dX9_isSmall_0 : decode cX9_isSmall 0 = .ok (.iload_n 0, 1) := by decide +kernel
theorem dX9_isSmall_1 : decode cX9_isSmall 1 = .ok (.bipush 97, 2) := by decide +kernel
theorem dX9_isSmall_3 : decode cX9_isSmall 3 = .ok (.if_icmp .lt 13, 3) := by decide +kernel
theorem dX9_isSmall_6 : decode cX9_isSmall 6 = .ok (.iload_n 0, 1) := by decide +kernel
theorem dX9_isSmall_7 : decode cX9_isSmall 7 = .ok (.bipush 122, 2) := by decide +kernel
theorem dX9_isSmall_9 : decode cX9_isSmall 9 = .ok (.if_icmp .gt 7, 3) := by decide +kernel
theorem dX9_isSmall_12 : decode cX9_isSmall 12 = .ok (.iconst 1, 1) := by decide +kernel
theorem dX9_isSmall_13 : decode cX9_isSmall 13 = .ok (.goto 4, 3) := by decide +kernel
theorem dX9_isSmall_16 : decode cX9_isSmall 16 = .ok (.iconst 0, 1) := by decide +kernel
theorem dX9_isSmall_17 : decode cX9_isSmall 17 = .ok (.ireturn, 1) := by decide +kernel
theorem dX9_isDigit_0 : decode cX9_isDigit 0 = .ok (.iload_n 0, 1) := by decide +kernel
theorem dX9_isDigit_1 : decode cX9_isDigit 1 = .ok (.bipush 48, 2) := by decide +kernel
theorem dX9_isDigit_3 : decode cX9_isDigit 3 = .ok (.if_icmp .lt 13, 3) := by decide +kernel
theorem dX9_isDigit_6 : decode cX9_isDigit 6 = .ok (.iload_n 0, 1) := by decide +kernel
theorem dX9_isDigit_7 : decode cX9_isDigit 7 = .ok (.bipush 57, 2) := by decide +kernel
theorem dX9_isDigit_9 : decode cX9_isDigit 9 = .ok (.if_icmp .gt 7, 3) := by decide +kernel
theorem dX9_isDigit_12 : decode cX9_isDigit 12 = .ok (.iconst 1, 1) := by decide +kernel
theorem dX9_isDigit_13 : decode cX9_isDigit 13 = .ok (.goto 4, 3) := by decide +kernel
theorem dX9_isDigit_16 : decode cX9_isDigit 16 = .ok (.iconst 0, 1) := by decide +kernel
theorem dX9_isDigit_17 : decode cX9_isDigit 17 = .ok (.ireturn, 1) := by decide +kernel
set_option maxRecDepth 20000 in
theorem ggX9_keyAt_J0_length_8abf5 : GoodIn wsX9_keyAt wsJ0_length_8abf5 := goodIn_r _ [5, 6, 7, 8, 9, 4, 10, 11, 12] rfl (by decide +kernel)
set_option maxRecDepth 20000 in
theorem gX9_keyAt_J0_length_8abf5 : GoodIn wsX9_keyAt (wsV RX9 131 RJ0 yJ0_length_8abf5 wsJ0_length_8abf5) := goodIn_app (goodIn_r _ [1, 2, 3, 4] rfl (by decide +kernel)) ggX9_keyAt_J0_length_8abf5
set_option maxRecDepth 20000 in
theorem ggX9_keyAt_J0_charAt_5068e : GoodIn wsX9_keyAt wsJ0_charAt_5068e := goodIn_r _ [16, 6, 17, 18, 19, 4, 20, 11, 12, 21, 22, 23, 24, 25, 26, 27, 28, 29, 30, 31, 32, 33, 34, 35, 36, 37, 38, 39, 40, 41, 42, 43, 44, 45, 46, 47, 48, 49] rfl (by decide +kernel)
set_option maxRecDepth 20000 in
theorem gX9_keyAt_J0_charAt_5068e : GoodIn wsX9_keyAt (wsV RX9 137 RJ0 yJ0_charAt_5068e wsJ0_charAt_5068e) := goodIn_app (goodIn_r _ [13, 14, 15, 4] rfl (by decide +kernel)) ggX9_keyAt_J0_charAt_5068e
set_option maxRecDepth 20000 in
theorem ggX9_keyAt_X9_see : GoodIn wsX9_keyAt wsX9_see := goodIn_r _ [54, 55, 56, 57, 58, 59, 60, 61, 62, 63, 64, 65, 66, 67, 68, 69, 70, 71, 72, 73, 74, 75, 76, 77, 78, 79, 80, 81, 82, 83, 84, 85, 86, 87, 88, 89, 90, 91, 92, 93, 94, 95, 96, 97, 98, 99, 100] rfl (by decide +kernel)
set_option maxRecDepth 20000 in
theorem gX9_keyAt_X9_see : GoodIn wsX9_keyAt (wsV RX9 141 RX9 yX9_see wsX9_see) := goodIn_app (goodIn_r _ [50, 51, 52, 53] rfl (by decide +kernel)) ggX9_keyAt_X9_see
theorem dX9_keyAt_0 : decode cX9_keyAt 0 = .ok (.iconst 0, 1) := by decide +kernel
theorem dX9_keyAt_1 : decode cX9_keyAt 1 = .ok (.istore_n 3, 1) := by decide +kernel
theorem dX9_keyAt_2 : decode cX9_keyAt 2 = .ok (.iconst 0, 1) := by decide +kernel
theorem dX9_keyAt_3 : decode cX9_keyAt 3 = .ok (.istore 4, 2) := by decide +kernel
theorem dX9_keyAt_5 : decode cX9_keyAt 5 = .ok (.iconst 0, 1) := by decide +kernel
theorem dX9_keyAt_6 : decode cX9_keyAt 6 = .ok (.istore 5, 2) := by decide +kernel
theorem dX9_keyAt_8 : decode cX9_keyAt 8 = .ok (.iload 5, 2) := by decide +kernel
theorem dX9_keyAt_10 : decode cX9_keyAt 10 = .ok (.ldc 129, 2) := by decide +kernel
theorem dX9_keyAt_12 : decode cX9_keyAt 12 = .ok (.invokevirtual 131, 3) := by decide +kernel
theorem dX9_keyAt_15 : decode cX9_keyAt 15 = .ok (.if_icmp .ge 104, 3) := by decide +kernel
theorem dX9_keyAt_18 : decode cX9_keyAt 18 = .ok (.ldc 129, 2) := by decide +kernel
theorem dX9_keyAt_20 : decode cX9_keyAt 20 = .ok (.iload 5, 2) := by decide +kernel
theorem dX9_keyAt_22 : decode cX9_keyAt 22 = .ok (.invokevirtual 137, 3) := by decide +kernel
theorem dX9_keyAt_25 : decode cX9_keyAt 25 = .ok (.bipush 32, 2) := by decide +kernel
theorem dX9_keyAt_27 : decode cX9_keyAt 27 = .ok (.if_icmp .eq 6, 3) := by decide +kernel
theorem dX9_keyAt_30 : decode cX9_keyAt 30 = .ok (.goto 83, 3) := by decide +kernel
theorem dX9_keyAt_33 : decode cX9_keyAt 33 = .ok (.iload 5, 2) := by decide +kernel
theorem dX9_keyAt_35 : decode cX9_keyAt 35 = .ok (.iload 4, 2) := by decide +kernel
theorem dX9_keyAt_37 : decode cX9_keyAt 37 = .ok (.isub, 1) := by decide +kernel
theorem dX9_keyAt_38 : decode cX9_keyAt 38 = .ok (.iload_n 2, 1) := by decide +kernel
theorem dX9_keyAt_39 : decode cX9_keyAt 39 = .ok (.if_icmp .ne 7, 3) := by decide +kernel
theorem dX9_keyAt_42 : decode cX9_keyAt 42 = .ok (.iconst 1, 1) := by decide +kernel
theorem dX9_keyAt_43 : decode cX9_keyAt 43 = .ok (.goto 4, 3) := by decide +kernel
theorem dX9_keyAt_46 : decode cX9_keyAt 46 = .ok (.iconst 0, 1) := by decide +kernel
theorem dX9_keyAt_47 : decode cX9_keyAt 47 = .ok (.istore 6, 2) := by decide +kernel
theorem dX9_keyAt_49 : decode cX9_keyAt 49 = .ok (.iconst 0, 1) := by decide +kernel
theorem dX9_keyAt_50 : decode cX9_keyAt 50 = .ok (.istore 7, 2) := by decide +kernel
theorem dX9_keyAt_52 : decode cX9_keyAt 52 = .ok (.iload 7, 2) := by decide +kernel
theorem dX9_keyAt_54 : decode cX9_keyAt 54 = .ok (.iload_n 2, 1) := by decide +kernel
theorem dX9_keyAt_55 : decode cX9_keyAt 55 = .ok (.if_icmp .ge 42, 3) := by decide +kernel
theorem dX9_keyAt_58 : decode cX9_keyAt 58 = .ok (.iload 6, 2) := by decide +kernel
theorem dX9_keyAt_60 : decode cX9_keyAt 60 = .ok (.ifCond .eq 37, 3) := by decide +kernel
theorem dX9_keyAt_63 : decode cX9_keyAt 63 = .ok (.ldc 129, 2) := by decide +kernel
theorem dX9_keyAt_65 : decode cX9_keyAt 65 = .ok (.iload 4, 2) := by decide +kernel
theorem dX9_keyAt_67 : decode cX9_keyAt 67 = .ok (.iload 7, 2) := by decide +kernel
theorem dX9_keyAt_69 : decode cX9_keyAt 69 = .ok (.iadd, 1) := by decide +kernel
theorem dX9_keyAt_70 : decode cX9_keyAt 70 = .ok (.invokevirtual 137, 3) := by decide +kernel
theorem dX9_keyAt_73 : decode cX9_keyAt 73 = .ok (.aload_n 0, 1) := by decide +kernel
theorem dX9_keyAt_74 : decode cX9_keyAt 74 = .ok (.iload_n 1, 1) := by decide +kernel
theorem dX9_keyAt_75 : decode cX9_keyAt 75 = .ok (.iload 7, 2) := by decide +kernel
theorem dX9_keyAt_77 : decode cX9_keyAt 77 = .ok (.iadd, 1) := by decide +kernel
theorem dX9_keyAt_78 : decode cX9_keyAt 78 = .ok (.invokevirtual 141, 3) := by decide +kernel
theorem dX9_keyAt_81 : decode cX9_keyAt 81 = .ok (.if_icmp .ne 7, 3) := by decide +kernel
theorem dX9_keyAt_84 : decode cX9_keyAt 84 = .ok (.iconst 1, 1) := by decide +kernel
theorem dX9_keyAt_85 : decode cX9_keyAt 85 = .ok (.goto 4, 3) := by decide +kernel
theorem dX9_keyAt_88 : decode cX9_keyAt 88 = .ok (.iconst 0, 1) := by decide +kernel
theorem dX9_keyAt_89 : decode cX9_keyAt 89 = .ok (.istore 6, 2) := by decide +kernel
theorem dX9_keyAt_91 : decode cX9_keyAt 91 = .ok (.iinc 7 1, 3) := by decide +kernel
theorem dX9_keyAt_94 : decode cX9_keyAt 94 = .ok (.goto (-42), 3) := by decide +kernel
theorem dX9_keyAt_97 : decode cX9_keyAt 97 = .ok (.iload 6, 2) := by decide +kernel
theorem dX9_keyAt_99 : decode cX9_keyAt 99 = .ok (.ifCond .eq 5, 3) := by decide +kernel
theorem dX9_keyAt_102 : decode cX9_keyAt 102 = .ok (.iload_n 3, 1) := by decide +kernel
theorem dX9_keyAt_103 : decode cX9_keyAt 103 = .ok (.ireturn, 1) := by decide +kernel
theorem dX9_keyAt_104 : decode cX9_keyAt 104 = .ok (.iinc 3 1, 3) := by decide +kernel
theorem dX9_keyAt_107 : decode cX9_keyAt 107 = .ok (.iload 5, 2) := by decide +kernel
theorem dX9_keyAt_109 : decode cX9_keyAt 109 = .ok (.iconst 1, 1) := by decide +kernel
theorem dX9_keyAt_110 : decode cX9_keyAt 110 = .ok (.iadd, 1) := by decide +kernel
theorem dX9_keyAt_111 : decode cX9_keyAt 111 = .ok (.istore 4, 2) := by decide +kernel
theorem dX9_keyAt_113 : decode cX9_keyAt 113 = .ok (.iinc 5 1, 3) := by decide +kernel
theorem dX9_keyAt_116 : decode cX9_keyAt 116 = .ok (.goto (-108), 3) := by decide +kernel
theorem dX9_keyAt_119 : decode cX9_keyAt 119 = .ok (.iconst (-1), 1) := by decide +kernel
theorem dX9_keyAt_120 : decode cX9_keyAt 120 = .ok (.ireturn, 1) := by decide +kernel
set_option maxRecDepth 20000 in
theorem ggX9_scan_X9_see : GoodIn wsX9_scan wsX9_see := goodIn_r _ [10, 11, 12, 72, 73, 74, 75, 76, 77, 78, 79, 80, 81, 82, 83, 84, 85, 86, 87, 88, 89, 90, 91, 92, 93, 94, 95, 96, 97, 98, 99, 100, 101, 102, 103, 104, 105, 106, 107, 108, 109, 110, 111, 112, 113, 114, 115] rfl (by decide +kernel)
set_option maxRecDepth 20000 in
theorem gX9_scan_X9_see : GoodIn wsX9_scan (wsV RX9 141 RX9 yX9_see wsX9_see) := goodIn_app (goodIn_r _ [6, 7, 8, 9] rfl (by decide +kernel)) ggX9_scan_X9_see
set_option maxRecDepth 20000 in
theorem ggX9_scan_X9_isSmall : GoodIn wsX9_scan wsX9_isSmall := goodIn_r _ [15] rfl (by decide +kernel)
set_option maxRecDepth 20000 in
theorem gX9_scan_X9_isSmall : GoodIn wsX9_scan (va_wsS RX9 153 yX9_isSmall wsX9_isSmall) := goodIn_app (goodIn_r _ [13, 14, 9] rfl (by decide +kernel)) ggX9_scan_X9_isSmall
set_option maxRecDepth 20000 in
theorem ggX9_scan_X9_keyAt : GoodIn wsX9_scan wsX9_keyAt := goodIn_r _ [19, 20, 21, 22, 23, 24, 25, 26, 27, 28, 29, 30, 31, 32, 33, 34, 35, 36, 37, 38, 39, 40, 41, 42, 43, 44, 45, 46, 47, 48, 49, 50, 51, 52, 53, 54, 55, 56, 57, 58, 59, 60, 61, 62, 63, 64, 65, 66, 67, 68, 6, 7, 8, 9, 10, 11, 12, 72, 73, 74, 75, 76, 77, 78, 79, 80, 81, 82, 83, 84, 85, 86, 87, 88, 89, 90, 91, 92, 93, 94, 95, 96, 97, 98, 99, 100, 101, 102, 103, 104, 105, 106, 107, 108, 109, 110, 111, 112, 113, 114, 115] rfl (by decide +kernel)
set_option maxRecDepth 20000 in
theorem gX9_scan_X9_keyAt : GoodIn wsX9_scan (wsV RX9 157 RX9 yX9_keyAt wsX9_keyAt) := goodIn_app (goodIn_r _ [16, 17, 18, 9] rfl (by decide +kernel)) ggX9_scan_X9_keyAt
set_option maxRecDepth 20000 in
theorem ggX9_scan_X9_isDigit : GoodIn wsX9_scan wsX9_isDigit := goodIn_r _ [71] rfl (by decide +kernel)
set_option maxRecDepth 20000 in
theorem gX9_scan_X9_isDigit : GoodIn wsX9_scan (va_wsS RX9 164 yX9_isDigit wsX9_isDigit) := goodIn_app (goodIn_r _ [69, 70, 9] rfl (by decide +kernel)) ggX9_scan_X9_isDigit
theorem dX9_scan_0 : decode cX9_scan 0 = .ok (.aload_n 0, 1) := by decide +kernel
theorem dX9_scan_1 : decode cX9_scan 1 = .ok (.getfield 144, 3) := by decide +kernel
theorem dX9_scan_4 : decode cX9_scan 4 = .ok (.istore_n 1, 1) := by decide +kernel
theorem dX9_scan_5 : decode cX9_scan 5 = .ok (.aload_n 0, 1) := by decide +kernel
theorem dX9_scan_6 : decode cX9_scan 6 = .ok (.iload_n 1, 1) := by decide +kernel
theorem dX9_scan_7 : decode cX9_scan 7 = .ok (.invokevirtual 141, 3) := by decide +kernel
theorem dX9_scan_10 : decode cX9_scan 10 = .ok (.bipush 32, 2) := by decide +kernel
theorem dX9_scan_12 : decode cX9_scan 12 = .ok (.if_icmp .eq 13, 3) := by decide +kernel
theorem dX9_scan_15 : decode cX9_scan 15 = .ok (.aload_n 0, 1) := by decide +kernel
theorem dX9_scan_16 : decode cX9_scan 16 = .ok (.iload_n 1, 1) := by decide +kernel
theorem dX9_scan_17 : decode cX9_scan 17 = .ok (.invokevirtual 141, 3) := by decide +kernel
theorem dX9_scan_20 : decode cX9_scan 20 = .ok (.bipush 10, 2) := by decide +kernel
theorem dX9_scan_22 : decode cX9_scan 22 = .ok (.if_icmp .ne 9, 3) := by decide +kernel
theorem dX9_scan_25 : decode cX9_scan 25 = .ok (.iinc 1 1, 3) := by decide +kernel
theorem dX9_scan_28 : decode cX9_scan 28 = .ok (.goto (-23), 3) := by decide +kernel
theorem dX9_scan_31 : decode cX9_scan 31 = .ok (.aload_n 0, 1) := by decide +kernel
theorem dX9_scan_32 : decode cX9_scan 32 = .ok (.iload_n 1, 1) := by decide +kernel
theorem dX9_scan_33 : decode cX9_scan 33 = .ok (.putfield 147, 3) := by decide +kernel
theorem dX9_scan_36 : decode cX9_scan 36 = .ok (.aload_n 0, 1) := by decide +kernel
theorem dX9_scan_37 : decode cX9_scan 37 = .ok (.iload_n 1, 1) := by decide +kernel
theorem dX9_scan_38 : decode cX9_scan 38 = .ok (.invokevirtual 141, 3) := by decide +kernel
theorem dX9_scan_41 : decode cX9_scan 41 = .ok (.istore_n 2, 1) := by decide +kernel
theorem dX9_scan_42 : decode cX9_scan 42 = .ok (.iload_n 1, 1) := by decide +kernel
theorem dX9_scan_43 : decode cX9_scan 43 = .ok (.iconst 1, 1) := by decide +kernel
theorem dX9_scan_44 : decode cX9_scan 44 = .ok (.iadd, 1) := by decide +kernel
theorem dX9_scan_45 : decode cX9_scan 45 = .ok (.istore_n 3, 1) := by decide +kernel
theorem dX9_scan_46 : decode cX9_scan 46 = .ok (.iload_n 2, 1) := by decide +kernel
theorem dX9_scan_47 : decode cX9_scan 47 = .ok (.iconst (-1), 1) := by decide +kernel
theorem dX9_scan_48 : decode cX9_scan 48 = .ok (.if_icmp .ne 13, 3) := by decide +kernel
theorem dX9_scan_51 : decode cX9_scan 51 = .ok (.aload_n 0, 1) := by decide +kernel
theorem dX9_scan_52 : decode cX9_scan 52 = .ok (.iconst 4, 1) := by decide +kernel
theorem dX9_scan_53 : decode cX9_scan 53 = .ok (.putfield 150, 3) := by decide +kernel
theorem dX9_scan_56 : decode cX9_scan 56 = .ok (.iload_n 1, 1) := by decide +kernel
theorem dX9_scan_57 : decode cX9_scan 57 = .ok (.istore_n 3, 1) := by decide +kernel
theorem dX9_scan_58 : decode cX9_scan 58 = .ok (.goto 159, 3) := by decide +kernel
theorem dX9_scan_61 : decode cX9_scan 61 = .ok (.iload_n 2, 1) := by decide +kernel
theorem dX9_scan_62 : decode cX9_scan 62 = .ok (.invokestatic 153, 3) := by decide +kernel
theorem dX9_scan_65 : decode cX9_scan 65 = .ok (.ifCond .eq 52, 3) := by decide +kernel
theorem dX9_scan_68 : decode cX9_scan 68 = .ok (.aload_n 0, 1) := by decide +kernel
theorem dX9_scan_69 : decode cX9_scan 69 = .ok (.iload_n 3, 1) := by decide +kernel
theorem dX9_scan_70 : decode cX9_scan 70 = .ok (.invokevirtual 141, 3) := by decide +kernel
theorem dX9_scan_73 : decode cX9_scan 73 = .ok (.invokestatic 153, 3) := by decide +kernel
theorem dX9_scan_76 : decode cX9_scan 76 = .ok (.ifCond .eq 9, 3) := by decide +kernel
theorem dX9_scan_79 : decode cX9_scan 79 = .ok (.iinc 3 1, 3) := by decide +kernel
theorem dX9_scan_82 : decode cX9_scan 82 = .ok (.goto (-14), 3) := by decide +kernel
theorem dX9_scan_85 : decode cX9_scan 85 = .ok (.aload_n 0, 1) := by decide +kernel
theorem dX9_scan_86 : decode cX9_scan 86 = .ok (.aload_n 0, 1) := by decide +kernel
theorem dX9_scan_87 : decode cX9_scan 87 = .ok (.iload_n 1, 1) := by decide +kernel
theorem dX9_scan_88 : decode cX9_scan 88 = .ok (.iload_n 3, 1) := by decide +kernel
theorem dX9_scan_89 : decode cX9_scan 89 = .ok (.iload_n 1, 1) := by decide +kernel
theorem dX9_scan_90 : decode cX9_scan 90 = .ok (.isub, 1) := by decide +kernel
theorem dX9_scan_91 : decode cX9_scan 91 = .ok (.invokevirtual 157, 3) := by decide +kernel
theorem dX9_scan_94 : decode cX9_scan 94 = .ok (.putfield 161, 3) := by decide +kernel
theorem dX9_scan_97 : decode cX9_scan 97 = .ok (.aload_n 0, 1) := by decide +kernel
theorem dX9_scan_98 : decode cX9_scan 98 = .ok (.aload_n 0, 1) := by decide +kernel
theorem dX9_scan_99 : decode cX9_scan 99 = .ok (.getfield 161, 3) := by decide +kernel
theorem dX9_scan_102 : decode cX9_scan 102 = .ok (.iconst (-1), 1) := by decide +kernel
theorem dX9_scan_103 : decode cX9_scan 103 = .ok (.if_icmp .ne 7, 3) := by decide +kernel
theorem dX9_scan_106 : decode cX9_scan 106 = .ok (.iconst 0, 1) := by decide +kernel
theorem dX9_scan_107 : decode cX9_scan 107 = .ok (.goto 4, 3) := by decide +kernel
theorem dX9_scan_110 : decode cX9_scan 110 = .ok (.iconst 1, 1) := by decide +kernel
theorem dX9_scan_111 : decode cX9_scan 111 = .ok (.putfield 150, 3) := by decide +kernel
theorem dX9_scan_114 : decode cX9_scan 114 = .ok (.goto 103, 3) := by decide +kernel
theorem dX9_scan_117 : decode cX9_scan 117 = .ok (.iload_n 2, 1) := by decide +kernel
theorem dX9_scan_118 : decode cX9_scan 118 = .ok (.invokestatic 164, 3) := by decide +kernel
theorem dX9_scan_121 : decode cX9_scan 121 = .ok (.ifCond .eq 81, 3) := by decide +kernel
theorem dX9_scan_124 : decode cX9_scan 124 = .ok (.aload_n 0, 1) := by decide +kernel
theorem dX9_scan_125 : decode cX9_scan 125 = .ok (.iload_n 2, 1) := by decide +kernel
theorem dX9_scan_126 : decode cX9_scan 126 = .ok (.bipush 48, 2) := by decide +kernel
theorem dX9_scan_128 : decode cX9_scan 128 = .ok (.isub, 1) := by decide +kernel
theorem dX9_scan_129 : decode cX9_scan 129 = .ok (.putfield 167, 3) := by decide +kernel
theorem dX9_scan_132 : decode cX9_scan 132 = .ok (.aload_n 0, 1) := by decide +kernel
theorem dX9_scan_133 : decode cX9_scan 133 = .ok (.iload_n 3, 1) := by decide +kernel
theorem dX9_scan_134 : decode cX9_scan 134 = .ok (.invokevirtual 141, 3) := by decide +kernel
theorem dX9_scan_137 : decode cX9_scan 137 = .ok (.invokestatic 164, 3) := by decide +kernel
theorem dX9_scan_140 : decode cX9_scan 140 = .ok (.ifCond .eq 43, 3) := by decide +kernel
theorem dX9_scan_143 : decode cX9_scan 143 = .ok (.aload_n 0, 1) := by decide +kernel
theorem dX9_scan_144 : decode cX9_scan 144 = .ok (.iload_n 3, 1) := by decide +kernel
theorem dX9_scan_145 : decode cX9_scan 145 = .ok (.iload_n 1, 1) := by decide +kernel
theorem dX9_scan_146 : decode cX9_scan 146 = .ok (.isub, 1) := by decide +kernel
theorem dX9_scan_147 : decode cX9_scan 147 = .ok (.iconst 3, 1) := by decide +kernel
theorem dX9_scan_148 : decode cX9_scan 148 = .ok (.if_icmp .ge 22, 3) := by decide +kernel
theorem dX9_scan_151 : decode cX9_scan 151 = .ok (.bipush 10, 2) := by decide +kernel
theorem dX9_scan_153 : decode cX9_scan 153 = .ok (.aload_n 0, 1) := by decide +kernel
theorem dX9_scan_154 : decode cX9_scan 154 = .ok (.getfield 167, 3) := by decide +kernel
theorem dX9_scan_157 : decode cX9_scan 157 = .ok (.imul, 1) := by decide +kernel
theorem dX9_scan_158 : decode cX9_scan 158 = .ok (.aload_n 0, 1) := by decide +kernel
theorem dX9_scan_159 : decode cX9_scan 159 = .ok (.iload_n 3, 1) := by decide +kernel
theorem dX9_scan_160 : decode cX9_scan 160 = .ok (.invokevirtual 141, 3) := by decide +kernel
theorem dX9_scan_163 : decode cX9_scan 163 = .ok (.iadd, 1) := by decide +kernel
theorem dX9_scan_164 : decode cX9_scan 164 = .ok (.bipush 48, 2) := by decide +kernel
theorem dX9_scan_166 : decode cX9_scan 166 = .ok (.isub, 1) := by decide +kernel
theorem dX9_scan_167 : decode cX9_scan 167 = .ok (.goto 7, 3) := by decide +kernel
theorem dX9_scan_170 : decode cX9_scan 170 = .ok (.aload_n 0, 1) := by decide +kernel
theorem dX9_scan_171 : decode cX9_scan 171 = .ok (.getfield 167, 3) := by decide +kernel
theorem dX9_scan_174 : decode cX9_scan 174 = .ok (.putfield 167, 3) := by decide +kernel
theorem dX9_scan_177 : decode cX9_scan 177 = .ok (.iinc 3 1, 3) := by decide +kernel
theorem dX9_scan_180 : decode cX9_scan 180 = .ok (.goto (-48), 3) := by decide +kernel
theorem dX9_scan_183 : decode cX9_scan 183 = .ok (.aload_n 0, 1) := by decide +kernel
theorem dX9_scan_184 : decode cX9_scan 184 = .ok (.iload_n 3, 1) := by decide +kernel
theorem dX9_scan_185 : decode cX9_scan 185 = .ok (.iload_n 1, 1) := by decide +kernel
theorem dX9_scan_186 : decode cX9_scan 186 = .ok (.isub, 1) := by decide +kernel
theorem dX9_scan_187 : decode cX9_scan 187 = .ok (.iconst 3, 1) := by decide +kernel
theorem dX9_scan_188 : decode cX9_scan 188 = .ok (.if_icmp .le 7, 3) := by decide +kernel
theorem dX9_scan_191 : decode cX9_scan 191 = .ok (.iconst 0, 1) := by decide +kernel
theorem dX9_scan_192 : decode cX9_scan 192 = .ok (.goto 4, 3) := by decide +kernel
theorem dX9_scan_195 : decode cX9_scan 195 = .ok (.iconst 2, 1) := by decide +kernel
theorem dX9_scan_196 : decode cX9_scan 196 = .ok (.putfield 150, 3) := by decide +kernel
theorem dX9_scan_199 : decode cX9_scan 199 = .ok (.goto 18, 3) := by decide +kernel
theorem dX9_scan_202 : decode cX9_scan 202 = .ok (.aload_n 0, 1) := by decide +kernel
theorem dX9_scan_203 : decode cX9_scan 203 = .ok (.iload_n 2, 1) := by decide +kernel
theorem dX9_scan_204 : decode cX9_scan 204 = .ok (.bipush 59, 2) := by decide +kernel
theorem dX9_scan_206 : decode cX9_scan 206 = .ok (.if_icmp .ne 7, 3) := by decide +kernel
theorem dX9_scan_209 : decode cX9_scan 209 = .ok (.iconst 3, 1) := by decide +kernel
theorem dX9_scan_210 : decode cX9_scan 210 = .ok (.goto 4, 3) := by decide +kernel
theorem dX9_scan_213 : decode cX9_scan 213 = .ok (.iconst 0, 1) := by decide +kernel
theorem dX9_scan_214 : decode cX9_scan 214 = .ok (.putfield 150, 3) := by decide +kernel
theorem dX9_scan_217 : decode cX9_scan 217 = .ok (.aload_n 0, 1) := by decide +kernel
theorem dX9_scan_218 : decode cX9_scan 218 = .ok (.iload_n 3, 1) := by decide +kernel
theorem dX9_scan_219 : decode cX9_scan 219 = .ok (.putfield 144, 3) := by decide +kernel
theorem dX9_scan_222 : decode cX9_scan 222 = .ok (.return_, 1) := by decide +kernel
theorem dX9_wrong_0 : decode cX9_wrong 0 = .ok (.aload_n 0, 1) := by decide +kernel
theorem dX9_wrong_1 : decode cX9_wrong 1 = .ok (.iload_n 1, 1) := by decide +kernel
theorem dX9_wrong_2 : decode cX9_wrong 2 = .ok (.putfield 170, 3) := by decide +kernel
theorem dX9_wrong_5 : decode cX9_wrong 5 = .ok (.aload_n 0, 1) := by decide +kernel
theorem dX9_wrong_6 : decode cX9_wrong 6 = .ok (.aload_n 0, 1) := by decide +kernel
theorem dX9_wrong_7 : decode cX9_wrong 7 = .ok (.getfield 147, 3) := by decide +kernel
theorem dX9_wrong_10 : decode cX9_wrong 10 = .ok (.putfield 13, 3) := by decide +kernel
theorem dX9_wrong_13 : decode cX9_wrong 13 = .ok (.iconst 0, 1) := by decide +kernel
theorem dX9_wrong_14 : decode cX9_wrong 14 = .ok (.ireturn, 1) := by decide +kernel
theorem dX9_plain_0 : decode cX9_plain 0 = .ok (.iload_n 0, 1) := by decide +kernel
theorem dX9_plain_1 : decode cX9_plain 1 = .ok (.ifCond .ne 8, 3) := by decide +kernel
theorem dX9_plain_4 : decode cX9_plain 4 = .ok (.bipush 20, 2) := by decide +kernel
theorem dX9_plain_6 : decode cX9_plain 6 = .ok (.goto 59, 3) := by decide +kernel
theorem dX9_plain_9 : decode cX9_plain 9 = .ok (.iload_n 0, 1) := by decide +kernel
theorem dX9_plain_10 : decode cX9_plain 10 = .ok (.iconst 1, 1) := by decide +kernel
theorem dX9_plain_11 : decode cX9_plain 11 = .ok (.if_icmp .ne 7, 3) := by decide +kernel
theorem dX9_plain_14 : decode cX9_plain 14 = .ok (.iconst 4, 1) := by decide +kernel
theorem dX9_plain_15 : decode cX9_plain 15 = .ok (.goto 50, 3) := by decide +kernel
theorem dX9_plain_18 : decode cX9_plain 18 = .ok (.iload_n 0, 1) := by decide +kernel
theorem dX9_plain_19 : decode cX9_plain 19 = .ok (.iconst 2, 1) := by decide +kernel
theorem dX9_plain_20 : decode cX9_plain 20 = .ok (.if_icmp .ne 7, 3) := by decide +kernel
theorem dX9_plain_23 : decode cX9_plain 23 = .ok (.iconst 2, 1) := by decide +kernel
theorem dX9_plain_24 : decode cX9_plain 24 = .ok (.goto 41, 3) := by decide +kernel
theorem dX9_plain_27 : decode cX9_plain 27 = .ok (.iload_n 0, 1) := by decide +kernel
theorem dX9_plain_28 : decode cX9_plain 28 = .ok (.iconst 3, 1) := by decide +kernel
theorem dX9_plain_29 : decode cX9_plain 29 = .ok (.if_icmp .ne 7, 3) := by decide +kernel
theorem dX9_plain_32 : decode cX9_plain 32 = .ok (.iconst 3, 1) := by decide +kernel
theorem dX9_plain_33 : decode cX9_plain 33 = .ok (.goto 32, 3) := by decide +kernel
theorem dX9_plain_36 : decode cX9_plain 36 = .ok (.iload_n 0, 1) := by decide +kernel
theorem dX9_plain_37 : decode cX9_plain 37 = .ok (.iconst 4, 1) := by decide +kernel
theorem dX9_plain_38 : decode cX9_plain 38 = .ok (.if_icmp .ne 7, 3) := by decide +kernel
theorem dX9_plain_41 : decode cX9_plain 41 = .ok (.iconst 0, 1) := by decide +kernel
theorem dX9_plain_42 : decode cX9_plain 42 = .ok (.goto 23, 3) := by decide +kernel
theorem dX9_plain_45 : decode cX9_plain 45 = .ok (.iload_n 0, 1) := by decide +kernel
theorem dX9_plain_46 : decode cX9_plain 46 = .ok (.iconst 5, 1) := by decide +kernel
theorem dX9_plain_47 : decode cX9_plain 47 = .ok (.if_icmp .ne 7, 3) := by decide +kernel
theorem dX9_plain_50 : decode cX9_plain 50 = .ok (.iconst 1, 1) := by decide +kernel
theorem dX9_plain_51 : decode cX9_plain 51 = .ok (.goto 14, 3) := by decide +kernel
theorem dX9_plain_54 : decode cX9_plain 54 = .ok (.iload_n 0, 1) := by decide +kernel
theorem dX9_plain_55 : decode cX9_plain 55 = .ok (.bipush 6, 2) := by decide +kernel
theorem dX9_plain_57 : decode cX9_plain 57 = .ok (.if_icmp .ne 7, 3) := by decide +kernel
theorem dX9_plain_60 : decode cX9_plain 60 = .ok (.iconst (-1), 1) := by decide +kernel
theorem dX9_plain_61 : decode cX9_plain 61 = .ok (.goto 4, 3) := by decide +kernel
theorem dX9_plain_64 : decode cX9_plain 64 = .ok (.iconst 1, 1) := by decide +kernel
theorem dX9_plain_65 : decode cX9_plain 65 = .ok (.ireturn, 1) := by decide +kernel
theorem dX9_low_0 : decode cX9_low 0 = .ok (.iload_n 0, 1) := by decide +kernel
theorem dX9_low_1 : decode cX9_low 1 = .ok (.ifCond .ne 7, 3) := by decide +kernel
theorem dX9_low_4 : decode cX9_low 4 = .ok (.iconst 2, 1) := by decide +kernel
theorem dX9_low_5 : decode cX9_low 5 = .ok (.goto 24, 3) := by decide +kernel
theorem dX9_low_8 : decode cX9_low 8 = .ok (.iload_n 0, 1) := by decide +kernel
theorem dX9_low_9 : decode cX9_low 9 = .ok (.iconst 1, 1) := by decide +kernel
theorem dX9_low_10 : decode cX9_low 10 = .ok (.if_icmp .eq 14, 3) := by decide +kernel
theorem dX9_low_13 : decode cX9_low 13 = .ok (.iload_n 0, 1) := by decide +kernel
theorem dX9_low_14 : decode cX9_low 14 = .ok (.iconst 3, 1) := by decide +kernel
theorem dX9_low_15 : decode cX9_low 15 = .ok (.if_icmp .eq 9, 3) := by decide +kernel
theorem dX9_low_18 : decode cX9_low 18 = .ok (.iload_n 0, 1) := by decide +kernel
theorem dX9_low_19 : decode cX9_low 19 = .ok (.bipush 6, 2) := by decide +kernel
theorem dX9_low_21 : decode cX9_low 21 = .ok (.if_icmp .ne 7, 3) := by decide +kernel
theorem dX9_low_24 : decode cX9_low 24 = .ok (.iconst 1, 1) := by decide +kernel
theorem dX9_low_25 : decode cX9_low 25 = .ok (.goto 4, 3) := by decide +kernel
theorem dX9_low_28 : decode cX9_low 28 = .ok (.iconst 0, 1) := by decide +kernel
theorem dX9_low_29 : decode cX9_low 29 = .ok (.ireturn, 1) := by decide +kernel
theorem dX9_high_0 : decode cX9_high 0 = .ok (.iload_n 0, 1) := by decide +kernel
theorem dX9_high_1 : decode cX9_high 1 = .ok (.ifCond .ne 8, 3) := by decide +kernel
theorem dX9_high_4 : decode cX9_high 4 = .ok (.bipush 100, 2) := by decide +kernel
theorem dX9_high_6 : decode cX9_high 6 = .ok (.goto 20, 3) := by decide +kernel
theorem dX9_high_9 : decode cX9_high 9 = .ok (.iload_n 0, 1) := by decide +kernel
theorem dX9_high_10 : decode cX9_high 10 = .ok (.iconst 3, 1) := by decide +kernel
theorem dX9_high_11 : decode cX9_high 11 = .ok (.if_icmp .eq 8, 3) := by decide +kernel
theorem dX9_high_14 : decode cX9_high 14 = .ok (.iload_n 0, 1) := by decide +kernel
theorem dX9_high_15 : decode cX9_high 15 = .ok (.iconst 5, 1) := by decide +kernel
theorem dX9_high_16 : decode cX9_high 16 = .ok (.if_icmp .ne 8, 3) := by decide +kernel
theorem dX9_high_19 : decode cX9_high 19 = .ok (.bipush 9, 2) := by decide +kernel
theorem dX9_high_21 : decode cX9_high 21 = .ok (.goto 5, 3) := by decide +kernel
theorem dX9_high_24 : decode cX9_high 24 = .ok (.bipush 50, 2) := by decide +kernel
theorem dX9_high_26 : decode cX9_high 26 = .ok (.ireturn, 1) := by decide +kernel
set_option maxRecDepth 20000 in
theorem ggX9_readLine_X9_wrong : GoodIn wsX9_readLine wsX9_wrong := goodIn_r _ [9, 10, 11, 12, 92, 93, 94, 95, 96, 97, 98, 99, 100, 101, 102, 103, 104, 105, 106, 107, 108, 109, 110, 111, 112, 113, 114, 115, 116, 117, 118, 119, 120, 121, 122, 123, 124, 125, 126, 127, 128, 129, 130, 131, 132, 133, 134, 135] rfl (by decide +kernel)
set_option maxRecDepth 20000 in
theorem gX9_readLine_X9_wrong : GoodIn wsX9_readLine (wsV RX9 173 RX9 yX9_wrong wsX9_wrong) := goodIn_app (goodIn_r _ [5, 6, 7, 8] rfl (by decide +kernel)) ggX9_readLine_X9_wrong
set_option maxRecDepth 20000 in
theorem ggX9_readLine_X9_scan : GoodIn wsX9_readLine wsX9_scan := goodIn_r _ [16, 17, 11, 1, 2, 4, 18, 19, 20, 8, 21, 22, 23, 24, 25, 26, 27, 28, 29, 30, 31, 32, 33, 34, 35, 36, 37, 38, 39, 40, 41, 42, 43, 44, 45, 46, 47, 48, 49, 50, 51, 52, 53, 54, 55, 56, 57, 58, 59, 60, 61, 62, 63, 64, 65, 66, 67, 68, 69, 70, 71, 72, 73, 74, 75, 76, 77, 78, 79, 80, 81, 82, 92, 93, 94, 95, 96, 97, 98, 99, 100, 101, 102, 103, 104, 105, 106, 107, 108, 109, 110, 111, 112, 113, 114, 115, 116, 117, 118, 119, 120, 121, 122, 123, 124, 125, 126, 127, 128, 129, 130, 131, 132, 133, 134, 135] rfl (by decide +kernel)
set_option maxRecDepth 20000 in
theorem gX9_readLine_X9_scan : GoodIn wsX9_readLine (wsV RX9 176 RX9 yX9_scan wsX9_scan) := goodIn_app (goodIn_r _ [13, 14, 15, 8] rfl (by decide +kernel)) ggX9_readLine_X9_scan
set_option maxRecDepth 20000 in
theorem ggX9_readLine_X9_low : GoodIn wsX9_readLine wsX9_low := goodIn_r _ [85] rfl (by decide +kernel)
set_option maxRecDepth 20000 in
theorem gX9_readLine_X9_low : GoodIn wsX9_readLine (va_wsS RX9 179 yX9_low wsX9_low) := goodIn_app (goodIn_r _ [83, 84, 8] rfl (by decide +kernel)) ggX9_readLine_X9_low
set_option maxRecDepth 20000 in
theorem ggX9_readLine_X9_high : GoodIn wsX9_readLine wsX9_high := goodIn_r _ [88] rfl (by decide +kernel)
set_option maxRecDepth 20000 in
theorem gX9_readLine_X9_high : GoodIn wsX9_readLine (va_wsS RX9 182 yX9_high wsX9_high) := goodIn_app (goodIn_r _ [86, 87, 8] rfl (by decide +kernel)) ggX9_readLine_X9_high
set_option maxRecDepth 20000 in
theorem ggX9_readLine_X9_in : GoodIn wsX9_readLine wsX9_in := goodIn_r _ [91] rfl (by decide +kernel)
set_option maxRecDepth 20000 in
theorem gX9_readLine_X9_in : GoodIn wsX9_readLine (va_wsS RX9 185 yX9_in wsX9_in) := goodIn_app (goodIn_r _ [89, 90, 8] rfl (by decide +kernel)) ggX9_readLine_X9_in
theorem dX9_readLine_0 : decode cX9_readLine 0 = .ok (.aload_n 0, 1) := by decide +kernel
theorem dX9_readLine_1 : decode cX9_readLine 1 = .ok (.getfield 150, 3) := by decide +kernel
theorem dX9_readLine_4 : decode cX9_readLine 4 = .ok (.iconst 1, 1) := by decide +kernel
theorem dX9_readLine_5 : decode cX9_readLine 5 = .ok (.if_icmp .ne 12, 3) := by decide +kernel
theorem dX9_readLine_8 : decode cX9_readLine 8 = .ok (.aload_n 0, 1) := by decide +kernel
theorem dX9_readLine_9 : decode cX9_readLine 9 = .ok (.getfield 161, 3) := by decide +kernel
theorem dX9_readLine_12 : decode cX9_readLine 12 = .ok (.bipush 7, 2) := by decide +kernel
theorem dX9_readLine_14 : decode cX9_readLine 14 = .ok (.if_icmp .le 9, 3) := by decide +kernel
theorem dX9_readLine_17 : decode cX9_readLine 17 = .ok (.aload_n 0, 1) := by decide +kernel
theorem dX9_readLine_18 : decode cX9_readLine 18 = .ok (.iconst 1, 1) := by decide +kernel
theorem dX9_readLine_19 : decode cX9_readLine 19 = .ok (.invokevirtual 173, 3) := by decide +kernel
theorem dX9_readLine_22 : decode cX9_readLine 22 = .ok (.ireturn, 1) := by decide +kernel
theorem dX9_readLine_23 : decode cX9_readLine 23 = .ok (.aload_n 0, 1) := by decide +kernel
theorem dX9_readLine_24 : decode cX9_readLine 24 = .ok (.getfield 161, 3) := by decide +kernel
theorem dX9_readLine_27 : decode cX9_readLine 27 = .ok (.istore_n 2, 1) := by decide +kernel
theorem dX9_readLine_28 : decode cX9_readLine 28 = .ok (.iload_n 1, 1) := by decide +kernel
theorem dX9_readLine_29 : decode cX9_readLine 29 = .ok (.iload_n 2, 1) := by decide +kernel
theorem dX9_readLine_30 : decode cX9_readLine 30 = .ok (.ishr, 1) := by decide +kernel
theorem dX9_readLine_31 : decode cX9_readLine 31 = .ok (.iconst 1, 1) := by decide +kernel
theorem dX9_readLine_32 : decode cX9_readLine 32 = .ok (.iand, 1) := by decide +kernel
theorem dX9_readLine_33 : decode cX9_readLine 33 = .ok (.iconst 1, 1) := by decide +kernel
theorem dX9_readLine_34 : decode cX9_readLine 34 = .ok (.if_icmp .ne 9, 3) := by decide +kernel
theorem dX9_readLine_37 : decode cX9_readLine 37 = .ok (.aload_n 0, 1) := by decide +kernel
theorem dX9_readLine_38 : decode cX9_readLine 38 = .ok (.iconst 3, 1) := by decide +kernel
theorem dX9_readLine_39 : decode cX9_readLine 39 = .ok (.invokevirtual 173, 3) := by decide +kernel
theorem dX9_readLine_42 : decode cX9_readLine 42 = .ok (.ireturn, 1) := by decide +kernel
theorem dX9_readLine_43 : decode cX9_readLine 43 = .ok (.aload_n 0, 1) := by decide +kernel
theorem dX9_readLine_44 : decode cX9_readLine 44 = .ok (.invokevirtual 176, 3) := by decide +kernel
theorem dX9_readLine_47 : decode cX9_readLine 47 = .ok (.iload_n 2, 1) := by decide +kernel
theorem dX9_readLine_48 : decode cX9_readLine 48 = .ok (.bipush 7, 2) := by decide +kernel
theorem dX9_readLine_50 : decode cX9_readLine 50 = .ok (.if_icmp .ne 45, 3) := by decide +kernel
theorem dX9_readLine_53 : decode cX9_readLine 53 = .ok (.aload_n 0, 1) := by decide +kernel
theorem dX9_readLine_54 : decode cX9_readLine 54 = .ok (.getfield 150, 3) := by decide +kernel
theorem dX9_readLine_57 : decode cX9_readLine 57 = .ok (.iconst 1, 1) := by decide +kernel
theorem dX9_readLine_58 : decode cX9_readLine 58 = .ok (.if_icmp .ne 12, 3) := by decide +kernel
theorem dX9_readLine_61 : decode cX9_readLine 61 = .ok (.aload_n 0, 1) := by decide +kernel
theorem dX9_readLine_62 : decode cX9_readLine 62 = .ok (.getfield 161, 3) := by decide +kernel
theorem dX9_readLine_65 : decode cX9_readLine 65 = .ok (.bipush 8, 2) := by decide +kernel
theorem dX9_readLine_67 : decode cX9_readLine 67 = .ok (.if_icmp .ge 9, 3) := by decide +kernel
theorem dX9_readLine_70 : decode cX9_readLine 70 = .ok (.aload_n 0, 1) := by decide +kernel
theorem dX9_readLine_71 : decode cX9_readLine 71 = .ok (.iconst 1, 1) := by decide +kernel
theorem dX9_readLine_72 : decode cX9_readLine 72 = .ok (.invokevirtual 173, 3) := by decide +kernel
theorem dX9_readLine_75 : decode cX9_readLine 75 = .ok (.ireturn, 1) := by decide +kernel
theorem dX9_readLine_76 : decode cX9_readLine 76 = .ok (.aload_n 0, 1) := by decide +kernel
theorem dX9_readLine_77 : decode cX9_readLine 77 = .ok (.getfield 17, 3) := by decide +kernel
theorem dX9_readLine_80 : decode cX9_readLine 80 = .ok (.bipush 32, 2) := by decide +kernel
theorem dX9_readLine_82 : decode cX9_readLine 82 = .ok (.iload_n 2, 1) := by decide +kernel
theorem dX9_readLine_83 : decode cX9_readLine 83 = .ok (.iadd, 1) := by decide +kernel
theorem dX9_readLine_84 : decode cX9_readLine 84 = .ok (.aload_n 0, 1) := by decide +kernel
theorem dX9_readLine_85 : decode cX9_readLine 85 = .ok (.getfield 161, 3) := by decide +kernel
theorem dX9_readLine_88 : decode cX9_readLine 88 = .ok (.bipush 8, 2) := by decide +kernel
theorem dX9_readLine_90 : decode cX9_readLine 90 = .ok (.isub, 1) := by decide +kernel
theorem dX9_readLine_91 : decode cX9_readLine 91 = .ok (.iastore, 1) := by decide +kernel
theorem dX9_readLine_92 : decode cX9_readLine 92 = .ok (.goto 54, 3) := by decide +kernel
theorem dX9_readLine_95 : decode cX9_readLine 95 = .ok (.aload_n 0, 1) := by decide +kernel
theorem dX9_readLine_96 : decode cX9_readLine 96 = .ok (.getfield 150, 3) := by decide +kernel
theorem dX9_readLine_99 : decode cX9_readLine 99 = .ok (.iconst 2, 1) := by decide +kernel
theorem dX9_readLine_100 : decode cX9_readLine 100 = .ok (.if_icmp .eq 9, 3) := by decide +kernel
theorem dX9_readLine_103 : decode cX9_readLine 103 = .ok (.aload_n 0, 1) := by decide +kernel
theorem dX9_readLine_104 : decode cX9_readLine 104 = .ok (.iconst 1, 1) := by decide +kernel
theorem dX9_readLine_105 : decode cX9_readLine 105 = .ok (.invokevirtual 173, 3) := by decide +kernel
theorem dX9_readLine_108 : decode cX9_readLine 108 = .ok (.ireturn, 1) := by decide +kernel
theorem dX9_readLine_109 : decode cX9_readLine 109 = .ok (.aload_n 0, 1) := by decide +kernel
theorem dX9_readLine_110 : decode cX9_readLine 110 = .ok (.getfield 167, 3) := by decide +kernel
theorem dX9_readLine_113 : decode cX9_readLine 113 = .ok (.iload_n 2, 1) := by decide +kernel
theorem dX9_readLine_114 : decode cX9_readLine 114 = .ok (.invokestatic 179, 3) := by decide +kernel
theorem dX9_readLine_117 : decode cX9_readLine 117 = .ok (.iload_n 2, 1) := by decide +kernel
theorem dX9_readLine_118 : decode cX9_readLine 118 = .ok (.invokestatic 182, 3) := by decide +kernel
theorem dX9_readLine_121 : decode cX9_readLine 121 = .ok (.invokestatic 185, 3) := by decide +kernel
theorem dX9_readLine_124 : decode cX9_readLine 124 = .ok (.ifCond .ne 9, 3) := by decide +kernel
theorem dX9_readLine_127 : decode cX9_readLine 127 = .ok (.aload_n 0, 1) := by decide +kernel
theorem dX9_readLine_128 : decode cX9_readLine 128 = .ok (.iconst 2, 1) := by decide +kernel
theorem dX9_readLine_129 : decode cX9_readLine 129 = .ok (.invokevirtual 173, 3) := by decide +kernel
theorem dX9_readLine_132 : decode cX9_readLine 132 = .ok (.ireturn, 1) := by decide +kernel
theorem dX9_readLine_133 : decode cX9_readLine 133 = .ok (.aload_n 0, 1) := by decide +kernel
theorem dX9_readLine_134 : decode cX9_readLine 134 = .ok (.getfield 17, 3) := by decide +kernel
theorem dX9_readLine_137 : decode cX9_readLine 137 = .ok (.bipush 32, 2) := by decide +kernel
theorem dX9_readLine_139 : decode cX9_readLine 139 = .ok (.iload_n 2, 1) := by decide +kernel
theorem dX9_readLine_140 : decode cX9_readLine 140 = .ok (.iadd, 1) := by decide +kernel
theorem dX9_readLine_141 : decode cX9_readLine 141 = .ok (.aload_n 0, 1) := by decide +kernel
theorem dX9_readLine_142 : decode cX9_readLine 142 = .ok (.getfield 167, 3) := by decide +kernel
theorem dX9_readLine_145 : decode cX9_readLine 145 = .ok (.iastore, 1) := by decide +kernel
theorem dX9_readLine_146 : decode cX9_readLine 146 = .ok (.aload_n 0, 1) := by decide +kernel
theorem dX9_readLine_147 : decode cX9_readLine 147 = .ok (.invokevirtual 176, 3) := by decide +kernel
theorem dX9_readLine_150 : decode cX9_readLine 150 = .ok (.aload_n 0, 1) := by decide +kernel
theorem dX9_readLine_151 : decode cX9_readLine 151 = .ok (.getfield 150, 3) := by decide +kernel
theorem dX9_readLine_154 : decode cX9_readLine 154 = .ok (.iconst 3, 1) := by decide +kernel
theorem dX9_readLine_155 : decode cX9_readLine 155 = .ok (.if_icmp .eq 9, 3) := by decide +kernel
theorem dX9_readLine_158 : decode cX9_readLine 158 = .ok (.aload_n 0, 1) := by decide +kernel
theorem dX9_readLine_159 : decode cX9_readLine 159 = .ok (.iconst 1, 1) := by decide +kernel
theorem dX9_readLine_160 : decode cX9_readLine 160 = .ok (.invokevirtual 173, 3) := by decide +kernel
theorem dX9_readLine_163 : decode cX9_readLine 163 = .ok (.ireturn, 1) := by decide +kernel
theorem dX9_readLine_164 : decode cX9_readLine 164 = .ok (.aload_n 0, 1) := by decide +kernel
theorem dX9_readLine_165 : decode cX9_readLine 165 = .ok (.invokevirtual 176, 3) := by decide +kernel
theorem dX9_readLine_168 : decode cX9_readLine 168 = .ok (.iconst 1, 1) := by decide +kernel
theorem dX9_readLine_169 : decode cX9_readLine 169 = .ok (.ireturn, 1) := by decide +kernel
set_option maxRecDepth 20000 in
theorem ggX9_way_X9_in : GoodIn wsX9_way wsX9_in := goodIn_r _ [13] rfl (by decide +kernel)
set_option maxRecDepth 20000 in
theorem gX9_way_X9_in : GoodIn wsX9_way (va_wsS RX9 185 yX9_in wsX9_in) := goodIn_app (goodIn_r _ [10, 11, 12] rfl (by decide +kernel)) ggX9_way_X9_in
set_option maxRecDepth 20000 in
theorem ggX9_way_X9_plain : GoodIn wsX9_way wsX9_plain := goodIn_r _ [16] rfl (by decide +kernel)
set_option maxRecDepth 20000 in
theorem gX9_way_X9_plain : GoodIn wsX9_way (va_wsS RX9 119 yX9_plain wsX9_plain) := goodIn_app (goodIn_r _ [14, 15, 12] rfl (by decide +kernel)) ggX9_way_X9_plain
set_option maxRecDepth 20000 in
theorem ggX9_way_X9_scan : GoodIn wsX9_way wsX9_scan := goodIn_r _ [20, 6, 21, 7, 8, 22, 23, 24, 25, 12, 26, 2, 27, 28, 29, 30, 31, 32, 33, 34, 35, 36, 37, 38, 39, 40, 41, 42, 43, 44, 45, 46, 47, 48, 49, 50, 51, 52, 53, 54, 55, 56, 57, 58, 59, 60, 61, 62, 63, 64, 65, 66, 67, 68, 69, 70, 71, 72, 73, 74, 75, 76, 77, 78, 79, 80, 81, 82, 83, 84, 85, 86, 101, 102, 103, 104, 105, 106, 107, 108, 109, 110, 111, 112, 113, 114, 115, 116, 117, 118, 119, 120, 121, 122, 123, 124, 125, 126, 127, 128, 129, 130, 131, 132, 133, 134, 135, 136, 137, 138, 139, 140, 141, 142, 143, 144] rfl (by decide +kernel)
set_option maxRecDepth 20000 in
theorem gX9_way_X9_scan : GoodIn wsX9_way (wsV RX9 176 RX9 yX9_scan wsX9_scan) := goodIn_app (goodIn_r _ [17, 18, 19, 12] rfl (by decide +kernel)) ggX9_way_X9_scan
set_option maxRecDepth 20000 in
theorem ggX9_way_X9_readLine : GoodIn wsX9_way wsX9_readLine := goodIn_r _ [90, 7, 8, 5, 22, 91, 92, 93, 12, 94, 3, 21, 4, 17, 18, 19, 20, 6, 23, 24, 25, 26, 2, 27, 28, 29, 30, 31, 32, 33, 34, 35, 36, 37, 38, 39, 40, 41, 42, 43, 44, 45, 46, 47, 48, 49, 50, 51, 52, 53, 54, 55, 56, 57, 58, 59, 60, 61, 62, 63, 64, 65, 66, 67, 68, 69, 70, 71, 72, 73, 74, 75, 76, 77, 78, 79, 80, 81, 82, 83, 84, 85, 86, 95, 96, 97, 98, 99, 100, 10, 11, 13, 101, 102, 103, 104, 105, 106, 107, 108, 109, 110, 111, 112, 113, 114, 115, 116, 117, 118, 119, 120, 121, 122, 123, 124, 125, 126, 127, 128, 129, 130, 131, 132, 133, 134, 135, 136, 137, 138, 139, 140, 141, 142, 143, 144] rfl (by decide +kernel)
set_option maxRecDepth 20000 in
theorem gX9_way_X9_readLine : GoodIn wsX9_way (wsV RX9 189 RX9 yX9_readLine wsX9_readLine) := goodIn_app (goodIn_r _ [87, 88, 89, 12] rfl (by decide +kernel)) ggX9_way_X9_readLine
set_option maxRecDepth 20000 in
theorem ggX9_way_X9_wrong : GoodIn wsX9_way wsX9_wrong := goodIn_r _ [94, 3, 21, 4, 101, 102, 103, 104, 105, 106, 107, 108, 109, 110, 111, 112, 113, 114, 115, 116, 117, 118, 119, 120, 121, 122, 123, 124, 125, 126, 127, 128, 129, 130, 131, 132, 133, 134, 135, 136, 137, 138, 139, 140, 141, 142, 143, 144] rfl (by decide +kernel)
set_option maxRecDepth 20000 in
theorem gX9_way_X9_wrong : GoodIn wsX9_way (wsV RX9 173 RX9 yX9_wrong wsX9_wrong) := goodIn_app (goodIn_r _ [91, 92, 93, 12] rfl (by decide +kernel)) ggX9_way_X9_wrong
theorem dX9_way_0 : decode cX9_way 0 = .ok (.aload_n 0, 1) := by decide +kernel
theorem dX9_way_1 : decode cX9_way 1 = .ok (.aload_n 0, 1) := by decide +kernel
theorem dX9_way_2 : decode cX9_way 2 = .ok (.getfield 123, 3) := by decide +kernel
theorem dX9_way_5 : decode cX9_way 5 = .ok (.putfield 126, 3) := by decide +kernel
theorem dX9_way_8 : decode cX9_way 8 = .ok (.aload_n 0, 1) := by decide +kernel
theorem dX9_way_9 : decode cX9_way 9 = .ok (.iconst 0, 1) := by decide +kernel
theorem dX9_way_10 : decode cX9_way 10 = .ok (.putfield 123, 3) := by decide +kernel
theorem dX9_way_13 : decode cX9_way 13 = .ok (.iload_n 1, 1) := by decide +kernel
theorem dX9_way_14 : decode cX9_way 14 = .ok (.iconst 0, 1) := by decide +kernel
theorem dX9_way_15 : decode cX9_way 15 = .ok (.iconst 3, 1) := by decide +kernel
theorem dX9_way_16 : decode cX9_way 16 = .ok (.invokestatic 185, 3) := by decide +kernel
theorem dX9_way_19 : decode cX9_way 19 = .ok (.ifCond .ne 6, 3) := by decide +kernel
theorem dX9_way_22 : decode cX9_way 22 = .ok (.bipush (-2), 2) := by decide +kernel
theorem dX9_way_24 : decode cX9_way 24 = .ok (.ireturn, 1) := by decide +kernel
theorem dX9_way_25 : decode cX9_way 25 = .ok (.aload_n 0, 1) := by decide +kernel
theorem dX9_way_26 : decode cX9_way 26 = .ok (.iconst 0, 1) := by decide +kernel
theorem dX9_way_27 : decode cX9_way 27 = .ok (.putfield 170, 3) := by decide +kernel
theorem dX9_way_30 : decode cX9_way 30 = .ok (.aload_n 0, 1) := by decide +kernel
theorem dX9_way_31 : decode cX9_way 31 = .ok (.iconst (-1), 1) := by decide +kernel
theorem dX9_way_32 : decode cX9_way 32 = .ok (.putfield 13, 3) := by decide +kernel
theorem dX9_way_35 : decode cX9_way 35 = .ok (.iconst 0, 1) := by decide +kernel
theorem dX9_way_36 : decode cX9_way 36 = .ok (.istore_n 2, 1) := by decide +kernel
theorem dX9_way_37 : decode cX9_way 37 = .ok (.iload_n 2, 1) := by decide +kernel
theorem dX9_way_38 : decode cX9_way 38 = .ok (.bipush 8, 2) := by decide +kernel
theorem dX9_way_40 : decode cX9_way 40 = .ok (.if_icmp .ge 22, 3) := by decide +kernel
theorem dX9_way_43 : decode cX9_way 43 = .ok (.aload_n 0, 1) := by decide +kernel
theorem dX9_way_44 : decode cX9_way 44 = .ok (.getfield 17, 3) := by decide +kernel
theorem dX9_way_47 : decode cX9_way 47 = .ok (.bipush 32, 2) := by decide +kernel
theorem dX9_way_49 : decode cX9_way 49 = .ok (.iload_n 2, 1) := by decide +kernel
theorem dX9_way_50 : decode cX9_way 50 = .ok (.iadd, 1) := by decide +kernel
theorem dX9_way_51 : decode cX9_way 51 = .ok (.iload_n 2, 1) := by decide +kernel
theorem dX9_way_52 : decode cX9_way 52 = .ok (.invokestatic 119, 3) := by decide +kernel
theorem dX9_way_55 : decode cX9_way 55 = .ok (.iastore, 1) := by decide +kernel
theorem dX9_way_56 : decode cX9_way 56 = .ok (.iinc 2 1, 3) := by decide +kernel
theorem dX9_way_59 : decode cX9_way 59 = .ok (.goto (-22), 3) := by decide +kernel
theorem dX9_way_62 : decode cX9_way 62 = .ok (.aload_n 0, 1) := by decide +kernel
theorem dX9_way_63 : decode cX9_way 63 = .ok (.iconst 0, 1) := by decide +kernel
theorem dX9_way_64 : decode cX9_way 64 = .ok (.putfield 144, 3) := by decide +kernel
theorem dX9_way_67 : decode cX9_way 67 = .ok (.aload_n 0, 1) := by decide +kernel
theorem dX9_way_68 : decode cX9_way 68 = .ok (.invokevirtual 176, 3) := by decide +kernel
theorem dX9_way_71 : decode cX9_way 71 = .ok (.iconst 0, 1) := by decide +kernel
theorem dX9_way_72 : decode cX9_way 72 = .ok (.istore_n 2, 1) := by decide +kernel
theorem dX9_way_73 : decode cX9_way 73 = .ok (.iconst 0, 1) := by decide +kernel
theorem dX9_way_74 : decode cX9_way 74 = .ok (.istore_n 3, 1) := by decide +kernel
theorem dX9_way_75 : decode cX9_way 75 = .ok (.aload_n 0, 1) := by decide +kernel
theorem dX9_way_76 : decode cX9_way 76 = .ok (.getfield 150, 3) := by decide +kernel
theorem dX9_way_79 : decode cX9_way 79 = .ok (.iconst 4, 1) := by decide +kernel
theorem dX9_way_80 : decode cX9_way 80 = .ok (.if_icmp .eq 53, 3) := by decide +kernel
theorem dX9_way_83 : decode cX9_way 83 = .ok (.aload_n 0, 1) := by decide +kernel
theorem dX9_way_84 : decode cX9_way 84 = .ok (.getfield 150, 3) := by decide +kernel
theorem dX9_way_87 : decode cX9_way 87 = .ok (.iconst 1, 1) := by decide +kernel
theorem dX9_way_88 : decode cX9_way 88 = .ok (.if_icmp .ne 21, 3) := by decide +kernel
theorem dX9_way_91 : decode cX9_way 91 = .ok (.aload_n 0, 1) := by decide +kernel
theorem dX9_way_92 : decode cX9_way 92 = .ok (.getfield 161, 3) := by decide +kernel
theorem dX9_way_95 : decode cX9_way 95 = .ok (.bipush 7, 2) := by decide +kernel
theorem dX9_way_97 : decode cX9_way 97 = .ok (.if_icmp .gt 12, 3) := by decide +kernel
theorem dX9_way_100 : decode cX9_way 100 = .ok (.iconst 1, 1) := by decide +kernel
theorem dX9_way_101 : decode cX9_way 101 = .ok (.aload_n 0, 1) := by decide +kernel
theorem dX9_way_102 : decode cX9_way 102 = .ok (.getfield 161, 3) := by decide +kernel
theorem dX9_way_105 : decode cX9_way 105 = .ok (.ishl, 1) := by decide +kernel
theorem dX9_way_106 : decode cX9_way 106 = .ok (.goto 4, 3) := by decide +kernel
theorem dX9_way_109 : decode cX9_way 109 = .ok (.iconst 0, 1) := by decide +kernel
theorem dX9_way_110 : decode cX9_way 110 = .ok (.istore 4, 2) := by decide +kernel
theorem dX9_way_112 : decode cX9_way 112 = .ok (.aload_n 0, 1) := by decide +kernel
theorem dX9_way_113 : decode cX9_way 113 = .ok (.iload_n 2, 1) := by decide +kernel
theorem dX9_way_114 : decode cX9_way 114 = .ok (.invokevirtual 189, 3) := by decide +kernel
theorem dX9_way_117 : decode cX9_way 117 = .ok (.ifCond .ne 5, 3) := by decide +kernel
theorem dX9_way_120 : decode cX9_way 120 = .ok (.iconst (-1), 1) := by decide +kernel
theorem dX9_way_121 : decode cX9_way 121 = .ok (.ireturn, 1) := by decide +kernel
theorem dX9_way_122 : decode cX9_way 122 = .ok (.iload_n 2, 1) := by decide +kernel
theorem dX9_way_123 : decode cX9_way 123 = .ok (.iload 4, 2) := by decide +kernel
theorem dX9_way_125 : decode cX9_way 125 = .ok (.ior, 1) := by decide +kernel
theorem dX9_way_126 : decode cX9_way 126 = .ok (.istore_n 2, 1) := by decide +kernel
theorem dX9_way_127 : decode cX9_way 127 = .ok (.iinc 3 1, 3) := by decide +kernel
theorem dX9_way_130 : decode cX9_way 130 = .ok (.goto (-55), 3) := by decide +kernel
theorem dX9_way_133 : decode cX9_way 133 = .ok (.aload_n 0, 1) := by decide +kernel
theorem dX9_way_134 : decode cX9_way 134 = .ok (.getfield 17, 3) := by decide +kernel
theorem dX9_way_137 : decode cX9_way 137 = .ok (.bipush 33, 2) := by decide +kernel
theorem dX9_way_139 : decode cX9_way 139 = .ok (.iaload, 1) := by decide +kernel
theorem dX9_way_140 : decode cX9_way 140 = .ok (.aload_n 0, 1) := by decide +kernel
theorem dX9_way_141 : decode cX9_way 141 = .ok (.getfield 17, 3) := by decide +kernel
theorem dX9_way_144 : decode cX9_way 144 = .ok (.bipush 32, 2) := by decide +kernel
theorem dX9_way_146 : decode cX9_way 146 = .ok (.iaload, 1) := by decide +kernel
theorem dX9_way_147 : decode cX9_way 147 = .ok (.if_icmp .lt 12, 3) := by decide +kernel
theorem dX9_way_150 : decode cX9_way 150 = .ok (.aload_n 0, 1) := by decide +kernel
theorem dX9_way_151 : decode cX9_way 151 = .ok (.iconst 4, 1) := by decide +kernel
theorem dX9_way_152 : decode cX9_way 152 = .ok (.invokevirtual 173, 3) := by decide +kernel
theorem dX9_way_155 : decode cX9_way 155 = .ok (.istore 4, 2) := by decide +kernel
theorem dX9_way_157 : decode cX9_way 157 = .ok (.iconst (-1), 1) := by decide +kernel
theorem dX9_way_158 : decode cX9_way 158 = .ok (.ireturn, 1) := by decide +kernel
theorem dX9_way_159 : decode cX9_way 159 = .ok (.iconst 0, 1) := by decide +kernel
theorem dX9_way_160 : decode cX9_way 160 = .ok (.istore 4, 2) := by decide +kernel
theorem dX9_way_162 : decode cX9_way 162 = .ok (.iload 4, 2) := by decide +kernel
theorem dX9_way_164 : decode cX9_way 164 = .ok (.bipush 8, 2) := by decide +kernel
theorem dX9_way_166 : decode cX9_way 166 = .ok (.if_icmp .ge 31, 3) := by decide +kernel
theorem dX9_way_169 : decode cX9_way 169 = .ok (.aload_n 0, 1) := by decide +kernel
theorem dX9_way_170 : decode cX9_way 170 = .ok (.getfield 17, 3) := by decide +kernel
theorem dX9_way_173 : decode cX9_way 173 = .ok (.bipush 8, 2) := by decide +kernel
theorem dX9_way_175 : decode cX9_way 175 = .ok (.iload_n 1, 1) := by decide +kernel
theorem dX9_way_176 : decode cX9_way 176 = .ok (.imul, 1) := by decide +kernel
theorem dX9_way_177 : decode cX9_way 177 = .ok (.iload 4, 2) := by decide +kernel
theorem dX9_way_179 : decode cX9_way 179 = .ok (.iadd, 1) := by decide +kernel
theorem dX9_way_180 : decode cX9_way 180 = .ok (.aload_n 0, 1) := by decide +kernel
theorem dX9_way_181 : decode cX9_way 181 = .ok (.getfield 17, 3) := by decide +kernel
theorem dX9_way_184 : decode cX9_way 184 = .ok (.bipush 32, 2) := by decide +kernel
theorem dX9_way_186 : decode cX9_way 186 = .ok (.iload 4, 2) := by decide +kernel
theorem dX9_way_188 : decode cX9_way 188 = .ok (.iadd, 1) := by decide +kernel
theorem dX9_way_189 : decode cX9_way 189 = .ok (.iaload, 1) := by decide +kernel
theorem dX9_way_190 : decode cX9_way 190 = .ok (.iastore, 1) := by decide +kernel
theorem dX9_way_191 : decode cX9_way 191 = .ok (.iinc 4 1, 3) := by decide +kernel
theorem dX9_way_194 : decode cX9_way 194 = .ok (.goto (-32), 3) := by decide +kernel
theorem dX9_way_197 : decode cX9_way 197 = .ok (.aload_n 0, 1) := by decide +kernel
theorem dX9_way_198 : decode cX9_way 198 = .ok (.iconst (-1), 1) := by decide +kernel
theorem dX9_way_199 : decode cX9_way 199 = .ok (.putfield 113, 3) := by decide +kernel
theorem dX9_way_202 : decode cX9_way 202 = .ok (.iload_n 3, 1) := by decide +kernel
theorem dX9_way_203 : decode cX9_way 203 = .ok (.ireturn, 1) := by decide +kernel
theorem dX9_fault_0 : decode cX9_fault 0 = .ok (.iload_n 1, 1) := by decide +kernel
theorem dX9_fault_1 : decode cX9_fault 1 = .ok (.ifCond .ne 10, 3) := by decide +kernel
theorem dX9_fault_4 : decode cX9_fault 4 = .ok (.aload_n 0, 1) := by decide +kernel
theorem dX9_fault_5 : decode cX9_fault 5 = .ok (.getfield 170, 3) := by decide +kernel
theorem dX9_fault_8 : decode cX9_fault 8 = .ok (.goto 16, 3) := by decide +kernel
theorem dX9_fault_11 : decode cX9_fault 11 = .ok (.iload_n 1, 1) := by decide +kernel
theorem dX9_fault_12 : decode cX9_fault 12 = .ok (.iconst 1, 1) := by decide +kernel
theorem dX9_fault_13 : decode cX9_fault 13 = .ok (.if_icmp .ne 10, 3) := by decide +kernel
theorem dX9_fault_16 : decode cX9_fault 16 = .ok (.aload_n 0, 1) := by decide +kernel
theorem dX9_fault_17 : decode cX9_fault 17 = .ok (.getfield 13, 3) := by decide +kernel
theorem dX9_fault_20 : decode cX9_fault 20 = .ok (.goto 4, 3) := by decide +kernel
theorem dX9_fault_23 : decode cX9_fault 23 = .ok (.iconst (-1), 1) := by decide +kernel
theorem dX9_fault_24 : decode cX9_fault 24 = .ok (.ireturn, 1) := by decide +kernel
set_option maxRecDepth 20000 in
theorem ggX9_rule_X9_in : GoodIn wsX9_rule wsX9_in := goodIn_r _ [5] rfl (by decide +kernel)
set_option maxRecDepth 20000 in
theorem gX9_rule_X9_in : GoodIn wsX9_rule (va_wsS RX9 185 yX9_in wsX9_in) := goodIn_app (goodIn_r _ [2, 3, 4] rfl (by decide +kernel)) ggX9_rule_X9_in
theorem dX9_rule_0 : decode cX9_rule 0 = .ok (.iload_n 1, 1) := by decide +kernel
theorem dX9_rule_1 : decode cX9_rule 1 = .ok (.iconst 0, 1) := by decide +kernel
theorem dX9_rule_2 : decode cX9_rule 2 = .ok (.iconst 3, 1) := by decide +kernel
theorem dX9_rule_3 : decode cX9_rule 3 = .ok (.invokestatic 185, 3) := by decide +kernel
theorem dX9_rule_6 : decode cX9_rule 6 = .ok (.ifCond .eq 27, 3) := by decide +kernel
theorem dX9_rule_9 : decode cX9_rule 9 = .ok (.iload_n 2, 1) := by decide +kernel
theorem dX9_rule_10 : decode cX9_rule 10 = .ok (.iconst 0, 1) := by decide +kernel
theorem dX9_rule_11 : decode cX9_rule 11 = .ok (.bipush 7, 2) := by decide +kernel
theorem dX9_rule_13 : decode cX9_rule 13 = .ok (.invokestatic 185, 3) := by decide +kernel
theorem dX9_rule_16 : decode cX9_rule 16 = .ok (.ifCond .eq 17, 3) := by decide +kernel
theorem dX9_rule_19 : decode cX9_rule 19 = .ok (.aload_n 0, 1) := by decide +kernel
theorem dX9_rule_20 : decode cX9_rule 20 = .ok (.getfield 17, 3) := by decide +kernel
theorem dX9_rule_23 : decode cX9_rule 23 = .ok (.bipush 8, 2) := by decide +kernel
theorem dX9_rule_25 : decode cX9_rule 25 = .ok (.iload_n 1, 1) := by decide +kernel
theorem dX9_rule_26 : decode cX9_rule 26 = .ok (.imul, 1) := by decide +kernel
theorem dX9_rule_27 : decode cX9_rule 27 = .ok (.iload_n 2, 1) := by decide +kernel
theorem dX9_rule_28 : decode cX9_rule 28 = .ok (.iadd, 1) := by decide +kernel
theorem dX9_rule_29 : decode cX9_rule 29 = .ok (.iaload, 1) := by decide +kernel
theorem dX9_rule_30 : decode cX9_rule 30 = .ok (.goto 5, 3) := by decide +kernel
theorem dX9_rule_33 : decode cX9_rule 33 = .ok (.bipush (-9), 2) := by decide +kernel
theorem dX9_rule_35 : decode cX9_rule 35 = .ok (.ireturn, 1) := by decide +kernel
set_option maxRecDepth 20000 in
theorem ggX9_isChange_X9_in : GoodIn wsX9_isChange wsX9_in := goodIn_r _ [5] rfl (by decide +kernel)
set_option maxRecDepth 20000 in
theorem gX9_isChange_X9_in : GoodIn wsX9_isChange (va_wsS RX9 185 yX9_in wsX9_in) := goodIn_app (goodIn_r _ [2, 3, 4] rfl (by decide +kernel)) ggX9_isChange_X9_in
theorem dX9_isChange_0 : decode cX9_isChange 0 = .ok (.iload_n 1, 1) := by decide +kernel
theorem dX9_isChange_1 : decode cX9_isChange 1 = .ok (.iconst 0, 1) := by decide +kernel
theorem dX9_isChange_2 : decode cX9_isChange 2 = .ok (.aload_n 0, 1) := by decide +kernel
theorem dX9_isChange_3 : decode cX9_isChange 3 = .ok (.getfield 192, 3) := by decide +kernel
theorem dX9_isChange_6 : decode cX9_isChange 6 = .ok (.iconst 1, 1) := by decide +kernel
theorem dX9_isChange_7 : decode cX9_isChange 7 = .ok (.isub, 1) := by decide +kernel
theorem dX9_isChange_8 : decode cX9_isChange 8 = .ok (.invokestatic 185, 3) := by decide +kernel
theorem dX9_isChange_11 : decode cX9_isChange 11 = .ok (.ireturn, 1) := by decide +kernel
set_option maxRecDepth 20000 in
theorem ggX9_change_X9_in : GoodIn wsX9_change wsX9_in := goodIn_r _ [14] rfl (by decide +kernel)
set_option maxRecDepth 20000 in
theorem gX9_change_X9_in : GoodIn wsX9_change (va_wsS RX9 185 yX9_in wsX9_in) := goodIn_app (goodIn_r _ [11, 12, 13] rfl (by decide +kernel)) ggX9_change_X9_in
theorem dX9_change_0 : decode cX9_change 0 = .ok (.iload_n 1, 1) := by decide +kernel
theorem dX9_change_1 : decode cX9_change 1 = .ok (.iconst 0, 1) := by decide +kernel
theorem dX9_change_2 : decode cX9_change 2 = .ok (.sipush 399, 3) := by decide +kernel
theorem dX9_change_5 : decode cX9_change 5 = .ok (.invokestatic 185, 3) := by decide +kernel
theorem dX9_change_8 : decode cX9_change 8 = .ok (.ifCond .eq 40, 3) := by decide +kernel
theorem dX9_change_11 : decode cX9_change 11 = .ok (.iload_n 2, 1) := by decide +kernel
theorem dX9_change_12 : decode cX9_change 12 = .ok (.iconst 1, 1) := by decide +kernel
theorem dX9_change_13 : decode cX9_change 13 = .ok (.ldc 195, 2) := by decide +kernel
theorem dX9_change_15 : decode cX9_change 15 = .ok (.invokestatic 185, 3) := by decide +kernel
theorem dX9_change_18 : decode cX9_change 18 = .ok (.ifCond .eq 30, 3) := by decide +kernel
theorem dX9_change_21 : decode cX9_change 21 = .ok (.iload_n 3, 1) := by decide +kernel
theorem dX9_change_22 : decode cX9_change 22 = .ok (.iconst 1, 1) := by decide +kernel
theorem dX9_change_23 : decode cX9_change 23 = .ok (.bipush 20, 2) := by decide +kernel
theorem dX9_change_25 : decode cX9_change 25 = .ok (.invokestatic 185, 3) := by decide +kernel
theorem dX9_change_28 : decode cX9_change 28 = .ok (.ifCond .eq 20, 3) := by decide +kernel
theorem dX9_change_31 : decode cX9_change 31 = .ok (.iload 4, 2) := by decide +kernel
theorem dX9_change_33 : decode cX9_change 33 = .ok (.iconst (-1), 1) := by decide +kernel
theorem dX9_change_34 : decode cX9_change 34 = .ok (.if_icmp .eq 17, 3) := by decide +kernel
theorem dX9_change_37 : decode cX9_change 37 = .ok (.iload 4, 2) := by decide +kernel
theorem dX9_change_39 : decode cX9_change 39 = .ok (.iconst 1, 1) := by decide +kernel
theorem dX9_change_40 : decode cX9_change 40 = .ok (.bipush 100, 2) := by decide +kernel
theorem dX9_change_42 : decode cX9_change 42 = .ok (.invokestatic 185, 3) := by decide +kernel
theorem dX9_change_45 : decode cX9_change 45 = .ok (.ifCond .ne 6, 3) := by decide +kernel
theorem dX9_change_48 : decode cX9_change 48 = .ok (.bipush (-2), 2) := by decide +kernel
theorem dX9_change_50 : decode cX9_change 50 = .ok (.ireturn, 1) := by decide +kernel
theorem dX9_change_51 : decode cX9_change 51 = .ok (.aload_n 0, 1) := by decide +kernel
theorem dX9_change_52 : decode cX9_change 52 = .ok (.getfield 192, 3) := by decide +kernel
theorem dX9_change_55 : decode cX9_change 55 = .ok (.bipush 60, 2) := by decide +kernel
theorem dX9_change_57 : decode cX9_change 57 = .ok (.if_icmp .ne 6, 3) := by decide +kernel
theorem dX9_change_60 : decode cX9_change 60 = .ok (.bipush (-3), 2) := by decide +kernel
theorem dX9_change_62 : decode cX9_change 62 = .ok (.ireturn, 1) := by decide +kernel
theorem dX9_change_63 : decode cX9_change 63 = .ok (.aload_n 0, 1) := by decide +kernel
theorem dX9_change_64 : decode cX9_change 64 = .ok (.getfield 21, 3) := by decide +kernel
theorem dX9_change_67 : decode cX9_change 67 = .ok (.aload_n 0, 1) := by decide +kernel
theorem dX9_change_68 : decode cX9_change 68 = .ok (.getfield 192, 3) := by decide +kernel
theorem dX9_change_71 : decode cX9_change 71 = .ok (.iload_n 1, 1) := by decide +kernel
theorem dX9_change_72 : decode cX9_change 72 = .ok (.iastore, 1) := by decide +kernel
theorem dX9_change_73 : decode cX9_change 73 = .ok (.aload_n 0, 1) := by decide +kernel
theorem dX9_change_74 : decode cX9_change 74 = .ok (.getfield 24, 3) := by decide +kernel
theorem dX9_change_77 : decode cX9_change 77 = .ok (.aload_n 0, 1) := by decide +kernel
theorem dX9_change_78 : decode cX9_change 78 = .ok (.getfield 192, 3) := by decide +kernel
theorem dX9_change_81 : decode cX9_change 81 = .ok (.iload_n 2, 1) := by decide +kernel
theorem dX9_change_82 : decode cX9_change 82 = .ok (.iastore, 1) := by decide +kernel
theorem dX9_change_83 : decode cX9_change 83 = .ok (.aload_n 0, 1) := by decide +kernel
theorem dX9_change_84 : decode cX9_change 84 = .ok (.getfield 27, 3) := by decide +kernel
theorem dX9_change_87 : decode cX9_change 87 = .ok (.aload_n 0, 1) := by decide +kernel
theorem dX9_change_88 : decode cX9_change 88 = .ok (.getfield 192, 3) := by decide +kernel
theorem dX9_change_91 : decode cX9_change 91 = .ok (.iload_n 3, 1) := by decide +kernel
theorem dX9_change_92 : decode cX9_change 92 = .ok (.iastore, 1) := by decide +kernel
theorem dX9_change_93 : decode cX9_change 93 = .ok (.aload_n 0, 1) := by decide +kernel
theorem dX9_change_94 : decode cX9_change 94 = .ok (.getfield 30, 3) := by decide +kernel
theorem dX9_change_97 : decode cX9_change 97 = .ok (.aload_n 0, 1) := by decide +kernel
theorem dX9_change_98 : decode cX9_change 98 = .ok (.getfield 192, 3) := by decide +kernel
theorem dX9_change_101 : decode cX9_change 101 = .ok (.iload 4, 2) := by decide +kernel
theorem dX9_change_103 : decode cX9_change 103 = .ok (.iastore, 1) := by decide +kernel
theorem dX9_change_104 : decode cX9_change 104 = .ok (.aload_n 0, 1) := by decide +kernel
theorem dX9_change_105 : decode cX9_change 105 = .ok (.getfield 33, 3) := by decide +kernel
theorem dX9_change_108 : decode cX9_change 108 = .ok (.aload_n 0, 1) := by decide +kernel
theorem dX9_change_109 : decode cX9_change 109 = .ok (.getfield 192, 3) := by decide +kernel
theorem dX9_change_112 : decode cX9_change 112 = .ok (.iconst (-1), 1) := by decide +kernel
theorem dX9_change_113 : decode cX9_change 113 = .ok (.iastore, 1) := by decide +kernel
theorem dX9_change_114 : decode cX9_change 114 = .ok (.aload_n 0, 1) := by decide +kernel
theorem dX9_change_115 : decode cX9_change 115 = .ok (.getfield 36, 3) := by decide +kernel
theorem dX9_change_118 : decode cX9_change 118 = .ok (.aload_n 0, 1) := by decide +kernel
theorem dX9_change_119 : decode cX9_change 119 = .ok (.getfield 192, 3) := by decide +kernel
theorem dX9_change_122 : decode cX9_change 122 = .ok (.iconst (-1), 1) := by decide +kernel
theorem dX9_change_123 : decode cX9_change 123 = .ok (.iastore, 1) := by decide +kernel
theorem dX9_change_124 : decode cX9_change 124 = .ok (.aload_n 0, 1) := by decide +kernel
theorem dX9_change_125 : decode cX9_change 125 = .ok (.getfield 42, 3) := by decide +kernel
theorem dX9_change_128 : decode cX9_change 128 = .ok (.aload_n 0, 1) := by decide +kernel
theorem dX9_change_129 : decode cX9_change 129 = .ok (.getfield 192, 3) := by decide +kernel
theorem dX9_change_132 : decode cX9_change 132 = .ok (.iconst 0, 1) := by decide +kernel
theorem dX9_change_133 : decode cX9_change 133 = .ok (.iastore, 1) := by decide +kernel
theorem dX9_change_134 : decode cX9_change 134 = .ok (.aload_n 0, 1) := by decide +kernel
theorem dX9_change_135 : decode cX9_change 135 = .ok (.dup, 1) := by decide +kernel
theorem dX9_change_136 : decode cX9_change 136 = .ok (.getfield 192, 3) := by decide +kernel
theorem dX9_change_139 : decode cX9_change 139 = .ok (.iconst 1, 1) := by decide +kernel
theorem dX9_change_140 : decode cX9_change 140 = .ok (.iadd, 1) := by decide +kernel
theorem dX9_change_141 : decode cX9_change 141 = .ok (.putfield 192, 3) := by decide +kernel
theorem dX9_change_144 : decode cX9_change 144 = .ok (.aload_n 0, 1) := by decide +kernel
theorem dX9_change_145 : decode cX9_change 145 = .ok (.iconst (-1), 1) := by decide +kernel
theorem dX9_change_146 : decode cX9_change 146 = .ok (.putfield 113, 3) := by decide +kernel
theorem dX9_change_149 : decode cX9_change 149 = .ok (.aload_n 0, 1) := by decide +kernel
theorem dX9_change_150 : decode cX9_change 150 = .ok (.getfield 192, 3) := by decide +kernel
theorem dX9_change_153 : decode cX9_change 153 = .ok (.iconst 1, 1) := by decide +kernel
theorem dX9_change_154 : decode cX9_change 154 = .ok (.isub, 1) := by decide +kernel
theorem dX9_change_155 : decode cX9_change 155 = .ok (.ireturn, 1) := by decide +kernel
set_option maxRecDepth 20000 in
theorem ggX9_hang_X9_isChange : GoodIn wsX9_hang wsX9_isChange := goodIn_r _ [8, 9, 10, 11, 7, 12, 13, 14, 15, 16, 17, 18, 19, 20, 21, 22, 23, 24, 25, 26, 27, 28, 29, 30, 31, 32, 33, 34, 35, 36, 37, 38, 39, 40, 41, 42, 43, 44, 45, 46, 47, 48, 49, 50, 51, 52, 53, 54, 55, 56] rfl (by decide +kernel)
set_option maxRecDepth 20000 in
theorem gX9_hang_X9_isChange : GoodIn wsX9_hang (wsV RX9 196 RX9 yX9_isChange wsX9_isChange) := goodIn_app (goodIn_r _ [4, 5, 6, 7] rfl (by decide +kernel)) ggX9_hang_X9_isChange
set_option maxRecDepth 20000 in
theorem ggX9_hang_X9_in : GoodIn wsX9_hang wsX9_in := goodIn_r _ [12] rfl (by decide +kernel)
set_option maxRecDepth 20000 in
theorem gX9_hang_X9_in : GoodIn wsX9_hang (va_wsS RX9 185 yX9_in wsX9_in) := goodIn_app (goodIn_r _ [10, 11, 7] rfl (by decide +kernel)) ggX9_hang_X9_in
theorem dX9_hang_0 : decode cX9_hang 0 = .ok (.aload_n 0, 1) := by decide +kernel
theorem dX9_hang_1 : decode cX9_hang 1 = .ok (.iload_n 1, 1) := by decide +kernel
theorem dX9_hang_2 : decode cX9_hang 2 = .ok (.invokevirtual 196, 3) := by decide +kernel
theorem dX9_hang_5 : decode cX9_hang 5 = .ok (.ifCond .eq 14, 3) := by decide +kernel
theorem dX9_hang_8 : decode cX9_hang 8 = .ok (.iload_n 2, 1) := by decide +kernel
theorem dX9_hang_9 : decode cX9_hang 9 = .ok (.iconst 0, 1) := by decide +kernel
theorem dX9_hang_10 : decode cX9_hang 10 = .ok (.iload_n 1, 1) := by decide +kernel
theorem dX9_hang_11 : decode cX9_hang 11 = .ok (.iconst 1, 1) := by decide +kernel
theorem dX9_hang_12 : decode cX9_hang 12 = .ok (.isub, 1) := by decide +kernel
theorem dX9_hang_13 : decode cX9_hang 13 = .ok (.invokestatic 185, 3) := by decide +kernel
theorem dX9_hang_16 : decode cX9_hang 16 = .ok (.ifCond .ne 6, 3) := by decide +kernel
theorem dX9_hang_19 : decode cX9_hang 19 = .ok (.bipush (-2), 2) := by decide +kernel
theorem dX9_hang_21 : decode cX9_hang 21 = .ok (.ireturn, 1) := by decide +kernel
theorem dX9_hang_22 : decode cX9_hang 22 = .ok (.iconst 0, 1) := by decide +kernel
theorem dX9_hang_23 : decode cX9_hang 23 = .ok (.istore_n 3, 1) := by decide +kernel
theorem dX9_hang_24 : decode cX9_hang 24 = .ok (.iload_n 3, 1) := by decide +kernel
theorem dX9_hang_25 : decode cX9_hang 25 = .ok (.aload_n 0, 1) := by decide +kernel
theorem dX9_hang_26 : decode cX9_hang 26 = .ok (.getfield 42, 3) := by decide +kernel
theorem dX9_hang_29 : decode cX9_hang 29 = .ok (.iload_n 1, 1) := by decide +kernel
theorem dX9_hang_30 : decode cX9_hang 30 = .ok (.iaload, 1) := by decide +kernel
theorem dX9_hang_31 : decode cX9_hang 31 = .ok (.if_icmp .ge 30, 3) := by decide +kernel
theorem dX9_hang_34 : decode cX9_hang 34 = .ok (.aload_n 0, 1) := by decide +kernel
theorem dX9_hang_35 : decode cX9_hang 35 = .ok (.getfield 39, 3) := by decide +kernel
theorem dX9_hang_38 : decode cX9_hang 38 = .ok (.iconst 3, 1) := by decide +kernel
theorem dX9_hang_39 : decode cX9_hang 39 = .ok (.iload_n 1, 1) := by decide +kernel
theorem dX9_hang_40 : decode cX9_hang 40 = .ok (.imul, 1) := by decide +kernel
theorem dX9_hang_41 : decode cX9_hang 41 = .ok (.iload_n 3, 1) := by decide +kernel
theorem dX9_hang_42 : decode cX9_hang 42 = .ok (.iadd, 1) := by decide +kernel
theorem dX9_hang_43 : decode cX9_hang 43 = .ok (.iaload, 1) := by decide +kernel
theorem dX9_hang_44 : decode cX9_hang 44 = .ok (.iload_n 2, 1) := by decide +kernel
theorem dX9_hang_45 : decode cX9_hang 45 = .ok (.if_icmp .ne 10, 3) := by decide +kernel
theorem dX9_hang_48 : decode cX9_hang 48 = .ok (.aload_n 0, 1) := by decide +kernel
theorem dX9_hang_49 : decode cX9_hang 49 = .ok (.getfield 42, 3) := by decide +kernel
theorem dX9_hang_52 : decode cX9_hang 52 = .ok (.iload_n 1, 1) := by decide +kernel
theorem dX9_hang_53 : decode cX9_hang 53 = .ok (.iaload, 1) := by decide +kernel
theorem dX9_hang_54 : decode cX9_hang 54 = .ok (.ireturn, 1) := by decide +kernel
theorem dX9_hang_55 : decode cX9_hang 55 = .ok (.iinc 3 1, 3) := by decide +kernel
theorem dX9_hang_58 : decode cX9_hang 58 = .ok (.goto (-34), 3) := by decide +kernel
theorem dX9_hang_61 : decode cX9_hang 61 = .ok (.aload_n 0, 1) := by decide +kernel
theorem dX9_hang_62 : decode cX9_hang 62 = .ok (.getfield 42, 3) := by decide +kernel
theorem dX9_hang_65 : decode cX9_hang 65 = .ok (.iload_n 1, 1) := by decide +kernel
theorem dX9_hang_66 : decode cX9_hang 66 = .ok (.iaload, 1) := by decide +kernel
theorem dX9_hang_67 : decode cX9_hang 67 = .ok (.iconst 3, 1) := by decide +kernel
theorem dX9_hang_68 : decode cX9_hang 68 = .ok (.if_icmp .ne 6, 3) := by decide +kernel
theorem dX9_hang_71 : decode cX9_hang 71 = .ok (.bipush (-3), 2) := by decide +kernel
theorem dX9_hang_73 : decode cX9_hang 73 = .ok (.ireturn, 1) := by decide +kernel
theorem dX9_hang_74 : decode cX9_hang 74 = .ok (.aload_n 0, 1) := by decide +kernel
theorem dX9_hang_75 : decode cX9_hang 75 = .ok (.getfield 39, 3) := by decide +kernel
theorem dX9_hang_78 : decode cX9_hang 78 = .ok (.iconst 3, 1) := by decide +kernel
theorem dX9_hang_79 : decode cX9_hang 79 = .ok (.iload_n 1, 1) := by decide +kernel
theorem dX9_hang_80 : decode cX9_hang 80 = .ok (.imul, 1) := by decide +kernel
theorem dX9_hang_81 : decode cX9_hang 81 = .ok (.aload_n 0, 1) := by decide +kernel
theorem dX9_hang_82 : decode cX9_hang 82 = .ok (.getfield 42, 3) := by decide +kernel
theorem dX9_hang_85 : decode cX9_hang 85 = .ok (.iload_n 1, 1) := by decide +kernel
theorem dX9_hang_86 : decode cX9_hang 86 = .ok (.iaload, 1) := by decide +kernel
theorem dX9_hang_87 : decode cX9_hang 87 = .ok (.iadd, 1) := by decide +kernel
theorem dX9_hang_88 : decode cX9_hang 88 = .ok (.iload_n 2, 1) := by decide +kernel
theorem dX9_hang_89 : decode cX9_hang 89 = .ok (.iastore, 1) := by decide +kernel
theorem dX9_hang_90 : decode cX9_hang 90 = .ok (.aload_n 0, 1) := by decide +kernel
theorem dX9_hang_91 : decode cX9_hang 91 = .ok (.getfield 42, 3) := by decide +kernel
theorem dX9_hang_94 : decode cX9_hang 94 = .ok (.iload_n 1, 1) := by decide +kernel
theorem dX9_hang_95 : decode cX9_hang 95 = .ok (.dup2, 1) := by decide +kernel
theorem dX9_hang_96 : decode cX9_hang 96 = .ok (.iaload, 1) := by decide +kernel
theorem dX9_hang_97 : decode cX9_hang 97 = .ok (.iconst 1, 1) := by decide +kernel
theorem dX9_hang_98 : decode cX9_hang 98 = .ok (.iadd, 1) := by decide +kernel
theorem dX9_hang_99 : decode cX9_hang 99 = .ok (.iastore, 1) := by decide +kernel
theorem dX9_hang_100 : decode cX9_hang 100 = .ok (.aload_n 0, 1) := by decide +kernel
theorem dX9_hang_101 : decode cX9_hang 101 = .ok (.iconst (-1), 1) := by decide +kernel
theorem dX9_hang_102 : decode cX9_hang 102 = .ok (.putfield 113, 3) := by decide +kernel
theorem dX9_hang_105 : decode cX9_hang 105 = .ok (.aload_n 0, 1) := by decide +kernel
theorem dX9_hang_106 : decode cX9_hang 106 = .ok (.getfield 42, 3) := by decide +kernel
theorem dX9_hang_109 : decode cX9_hang 109 = .ok (.iload_n 1, 1) := by decide +kernel
theorem dX9_hang_110 : decode cX9_hang 110 = .ok (.iaload, 1) := by decide +kernel
theorem dX9_hang_111 : decode cX9_hang 111 = .ok (.ireturn, 1) := by decide +kernel
set_option maxRecDepth 20000 in
theorem ggX9_fix_X9_isChange : GoodIn wsX9_fix wsX9_isChange := goodIn_r _ [9, 10, 11, 12, 8, 13, 14, 15, 16, 17, 18, 19, 20, 21, 22, 23, 24, 25, 26, 27, 28, 29, 30, 31, 32, 33, 34, 35, 36, 37, 38, 39, 40, 41, 42, 43, 44, 45, 46, 47, 48, 49, 50, 51, 52, 53, 54, 55, 56, 57] rfl (by decide +kernel)
set_option maxRecDepth 20000 in
theorem gX9_fix_X9_isChange : GoodIn wsX9_fix (wsV RX9 196 RX9 yX9_isChange wsX9_isChange) := goodIn_app (goodIn_r _ [5, 6, 7, 8] rfl (by decide +kernel)) ggX9_fix_X9_isChange
set_option maxRecDepth 20000 in
theorem ggX9_fix_X9_in : GoodIn wsX9_fix wsX9_in := goodIn_r _ [13] rfl (by decide +kernel)
set_option maxRecDepth 20000 in
theorem gX9_fix_X9_in : GoodIn wsX9_fix (va_wsS RX9 185 yX9_in wsX9_in) := goodIn_app (goodIn_r _ [11, 12, 8] rfl (by decide +kernel)) ggX9_fix_X9_in
theorem dX9_fix_0 : decode cX9_fix 0 = .ok (.aload_n 0, 1) := by decide +kernel
theorem dX9_fix_1 : decode cX9_fix 1 = .ok (.iload_n 1, 1) := by decide +kernel
theorem dX9_fix_2 : decode cX9_fix 2 = .ok (.invokevirtual 196, 3) := by decide +kernel
theorem dX9_fix_5 : decode cX9_fix 5 = .ok (.ifCond .eq 44, 3) := by decide +kernel
theorem dX9_fix_8 : decode cX9_fix 8 = .ok (.iload_n 2, 1) := by decide +kernel
theorem dX9_fix_9 : decode cX9_fix 9 = .ok (.iconst 0, 1) := by decide +kernel
theorem dX9_fix_10 : decode cX9_fix 10 = .ok (.iload_n 1, 1) := by decide +kernel
theorem dX9_fix_11 : decode cX9_fix 11 = .ok (.iconst 1, 1) := by decide +kernel
theorem dX9_fix_12 : decode cX9_fix 12 = .ok (.isub, 1) := by decide +kernel
theorem dX9_fix_13 : decode cX9_fix 13 = .ok (.invokestatic 185, 3) := by decide +kernel
theorem dX9_fix_16 : decode cX9_fix 16 = .ok (.ifCond .eq 33, 3) := by decide +kernel
theorem dX9_fix_19 : decode cX9_fix 19 = .ok (.aload_n 0, 1) := by decide +kernel
theorem dX9_fix_20 : decode cX9_fix 20 = .ok (.getfield 30, 3) := by decide +kernel
theorem dX9_fix_23 : decode cX9_fix 23 = .ok (.iload_n 2, 1) := by decide +kernel
theorem dX9_fix_24 : decode cX9_fix 24 = .ok (.iaload, 1) := by decide +kernel
theorem dX9_fix_25 : decode cX9_fix 25 = .ok (.iconst (-1), 1) := by decide +kernel
theorem dX9_fix_26 : decode cX9_fix 26 = .ok (.if_icmp .eq 23, 3) := by decide +kernel
theorem dX9_fix_29 : decode cX9_fix 29 = .ok (.aload_n 0, 1) := by decide +kernel
theorem dX9_fix_30 : decode cX9_fix 30 = .ok (.getfield 36, 3) := by decide +kernel
theorem dX9_fix_33 : decode cX9_fix 33 = .ok (.iload_n 2, 1) := by decide +kernel
theorem dX9_fix_34 : decode cX9_fix 34 = .ok (.iaload, 1) := by decide +kernel
theorem dX9_fix_35 : decode cX9_fix 35 = .ok (.iconst (-1), 1) := by decide +kernel
theorem dX9_fix_36 : decode cX9_fix 36 = .ok (.if_icmp .ne 13, 3) := by decide +kernel
theorem dX9_fix_39 : decode cX9_fix 39 = .ok (.aload_n 0, 1) := by decide +kernel
theorem dX9_fix_40 : decode cX9_fix 40 = .ok (.getfield 33, 3) := by decide +kernel
theorem dX9_fix_43 : decode cX9_fix 43 = .ok (.iload_n 1, 1) := by decide +kernel
theorem dX9_fix_44 : decode cX9_fix 44 = .ok (.iaload, 1) := by decide +kernel
theorem dX9_fix_45 : decode cX9_fix 45 = .ok (.iconst (-1), 1) := by decide +kernel
theorem dX9_fix_46 : decode cX9_fix 46 = .ok (.if_icmp .eq 6, 3) := by decide +kernel
theorem dX9_fix_49 : decode cX9_fix 49 = .ok (.bipush (-2), 2) := by decide +kernel
theorem dX9_fix_51 : decode cX9_fix 51 = .ok (.ireturn, 1) := by decide +kernel
theorem dX9_fix_52 : decode cX9_fix 52 = .ok (.aload_n 0, 1) := by decide +kernel
theorem dX9_fix_53 : decode cX9_fix 53 = .ok (.getfield 33, 3) := by decide +kernel
theorem dX9_fix_56 : decode cX9_fix 56 = .ok (.iload_n 1, 1) := by decide +kernel
theorem dX9_fix_57 : decode cX9_fix 57 = .ok (.iload_n 2, 1) := by decide +kernel
theorem dX9_fix_58 : decode cX9_fix 58 = .ok (.iastore, 1) := by decide +kernel
theorem dX9_fix_59 : decode cX9_fix 59 = .ok (.aload_n 0, 1) := by decide +kernel
theorem dX9_fix_60 : decode cX9_fix 60 = .ok (.getfield 36, 3) := by decide +kernel
theorem dX9_fix_63 : decode cX9_fix 63 = .ok (.iload_n 2, 1) := by decide +kernel
theorem dX9_fix_64 : decode cX9_fix 64 = .ok (.iload_n 1, 1) := by decide +kernel
theorem dX9_fix_65 : decode cX9_fix 65 = .ok (.iastore, 1) := by decide +kernel
theorem dX9_fix_66 : decode cX9_fix 66 = .ok (.aload_n 0, 1) := by decide +kernel
theorem dX9_fix_67 : decode cX9_fix 67 = .ok (.iconst (-1), 1) := by decide +kernel
theorem dX9_fix_68 : decode cX9_fix 68 = .ok (.putfield 113, 3) := by decide +kernel
theorem dX9_fix_71 : decode cX9_fix 71 = .ok (.iconst 1, 1) := by decide +kernel
theorem dX9_fix_72 : decode cX9_fix 72 = .ok (.ireturn, 1) := by decide +kernel
set_option maxRecDepth 20000 in
theorem ggX9_about_X9_isChange : GoodIn wsX9_about wsX9_isChange := goodIn_r _ [13, 14, 15, 16, 12, 17, 18, 19, 20, 21, 22, 23, 24, 25, 26, 27, 28, 29, 30, 31, 32, 33, 34, 35, 36, 37, 38, 39, 40, 41, 42, 43, 44, 45, 46, 47, 48, 49, 50, 51, 52, 53, 54, 55, 56, 57, 58, 59, 60, 61] rfl (by decide +kernel)
set_option maxRecDepth 20000 in
theorem gX9_about_X9_isChange : GoodIn wsX9_about (wsV RX9 196 RX9 yX9_isChange wsX9_isChange) := goodIn_app (goodIn_r _ [9, 10, 11, 12] rfl (by decide +kernel)) ggX9_about_X9_isChange
set_option maxRecDepth 20000 in
theorem ggX9_about_X9_in : GoodIn wsX9_about wsX9_in := goodIn_r _ [17] rfl (by decide +kernel)
set_option maxRecDepth 20000 in
theorem gX9_about_X9_in : GoodIn wsX9_about (va_wsS RX9 185 yX9_in wsX9_in) := goodIn_app (goodIn_r _ [15, 16, 12] rfl (by decide +kernel)) ggX9_about_X9_in
theorem dX9_about_0 : decode cX9_about 0 = .ok (.aload_n 0, 1) := by decide +kernel
theorem dX9_about_1 : decode cX9_about 1 = .ok (.iload_n 1, 1) := by decide +kernel
theorem dX9_about_2 : decode cX9_about 2 = .ok (.invokevirtual 196, 3) := by decide +kernel
theorem dX9_about_5 : decode cX9_about 5 = .ok (.ifCond .ne 6, 3) := by decide +kernel
theorem dX9_about_8 : decode cX9_about 8 = .ok (.bipush (-9), 2) := by decide +kernel
theorem dX9_about_10 : decode cX9_about 10 = .ok (.ireturn, 1) := by decide +kernel
theorem dX9_about_11 : decode cX9_about 11 = .ok (.iload_n 2, 1) := by decide +kernel
theorem dX9_about_12 : decode cX9_about 12 = .ok (.tableswitch 93 0 6 #[44, 51, 58, 65, 72, 79, 86], 44) := by decide +kernel
theorem dX9_about_56 : decode cX9_about 56 = .ok (.aload_n 0, 1) := by decide +kernel
theorem dX9_about_57 : decode cX9_about 57 = .ok (.getfield 21, 3) := by decide +kernel
theorem dX9_about_60 : decode cX9_about 60 = .ok (.iload_n 1, 1) := by decide +kernel
theorem dX9_about_61 : decode cX9_about 61 = .ok (.iaload, 1) := by decide +kernel
theorem dX9_about_62 : decode cX9_about 62 = .ok (.ireturn, 1) := by decide +kernel
theorem dX9_about_63 : decode cX9_about 63 = .ok (.aload_n 0, 1) := by decide +kernel
theorem dX9_about_64 : decode cX9_about 64 = .ok (.getfield 24, 3) := by decide +kernel
theorem dX9_about_67 : decode cX9_about 67 = .ok (.iload_n 1, 1) := by decide +kernel
theorem dX9_about_68 : decode cX9_about 68 = .ok (.iaload, 1) := by decide +kernel
theorem dX9_about_69 : decode cX9_about 69 = .ok (.ireturn, 1) := by decide +kernel
theorem dX9_about_70 : decode cX9_about 70 = .ok (.aload_n 0, 1) := by decide +kernel
theorem dX9_about_71 : decode cX9_about 71 = .ok (.getfield 27, 3) := by decide +kernel
theorem dX9_about_74 : decode cX9_about 74 = .ok (.iload_n 1, 1) := by decide +kernel
theorem dX9_about_75 : decode cX9_about 75 = .ok (.iaload, 1) := by decide +kernel
theorem dX9_about_76 : decode cX9_about 76 = .ok (.ireturn, 1) := by decide +kernel
theorem dX9_about_77 : decode cX9_about 77 = .ok (.aload_n 0, 1) := by decide +kernel
theorem dX9_about_78 : decode cX9_about 78 = .ok (.getfield 30, 3) := by decide +kernel
theorem dX9_about_81 : decode cX9_about 81 = .ok (.iload_n 1, 1) := by decide +kernel
theorem dX9_about_82 : decode cX9_about 82 = .ok (.iaload, 1) := by decide +kernel
theorem dX9_about_83 : decode cX9_about 83 = .ok (.ireturn, 1) := by decide +kernel
theorem dX9_about_84 : decode cX9_about 84 = .ok (.aload_n 0, 1) := by decide +kernel
theorem dX9_about_85 : decode cX9_about 85 = .ok (.getfield 33, 3) := by decide +kernel
theorem dX9_about_88 : decode cX9_about 88 = .ok (.iload_n 1, 1) := by decide +kernel
theorem dX9_about_89 : decode cX9_about 89 = .ok (.iaload, 1) := by decide +kernel
theorem dX9_about_90 : decode cX9_about 90 = .ok (.ireturn, 1) := by decide +kernel
theorem dX9_about_91 : decode cX9_about 91 = .ok (.aload_n 0, 1) := by decide +kernel
theorem dX9_about_92 : decode cX9_about 92 = .ok (.getfield 36, 3) := by decide +kernel
theorem dX9_about_95 : decode cX9_about 95 = .ok (.iload_n 1, 1) := by decide +kernel
theorem dX9_about_96 : decode cX9_about 96 = .ok (.iaload, 1) := by decide +kernel
theorem dX9_about_97 : decode cX9_about 97 = .ok (.ireturn, 1) := by decide +kernel
theorem dX9_about_98 : decode cX9_about 98 = .ok (.aload_n 0, 1) := by decide +kernel
theorem dX9_about_99 : decode cX9_about 99 = .ok (.getfield 42, 3) := by decide +kernel
theorem dX9_about_102 : decode cX9_about 102 = .ok (.iload_n 1, 1) := by decide +kernel
theorem dX9_about_103 : decode cX9_about 103 = .ok (.iaload, 1) := by decide +kernel
theorem dX9_about_104 : decode cX9_about 104 = .ok (.ireturn, 1) := by decide +kernel
theorem dX9_about_105 : decode cX9_about 105 = .ok (.iload_n 2, 1) := by decide +kernel
theorem dX9_about_106 : decode cX9_about 106 = .ok (.bipush 10, 2) := by decide +kernel
theorem dX9_about_108 : decode cX9_about 108 = .ok (.bipush 9, 2) := by decide +kernel
theorem dX9_about_110 : decode cX9_about 110 = .ok (.aload_n 0, 1) := by decide +kernel
theorem dX9_about_111 : decode cX9_about 111 = .ok (.getfield 42, 3) := by decide +kernel
theorem dX9_about_114 : decode cX9_about 114 = .ok (.iload_n 1, 1) := by decide +kernel
theorem dX9_about_115 : decode cX9_about 115 = .ok (.iaload, 1) := by decide +kernel
theorem dX9_about_116 : decode cX9_about 116 = .ok (.iadd, 1) := by decide +kernel
theorem dX9_about_117 : decode cX9_about 117 = .ok (.invokestatic 185, 3) := by decide +kernel
theorem dX9_about_120 : decode cX9_about 120 = .ok (.ifCond .eq 19, 3) := by decide +kernel
theorem dX9_about_123 : decode cX9_about 123 = .ok (.aload_n 0, 1) := by decide +kernel
theorem dX9_about_124 : decode cX9_about 124 = .ok (.getfield 39, 3) := by decide +kernel
theorem dX9_about_127 : decode cX9_about 127 = .ok (.iconst 3, 1) := by decide +kernel
theorem dX9_about_128 : decode cX9_about 128 = .ok (.iload_n 1, 1) := by decide +kernel
theorem dX9_about_129 : decode cX9_about 129 = .ok (.imul, 1) := by decide +kernel
theorem dX9_about_130 : decode cX9_about 130 = .ok (.iload_n 2, 1) := by decide +kernel
theorem dX9_about_131 : decode cX9_about 131 = .ok (.iadd, 1) := by decide +kernel
theorem dX9_about_132 : decode cX9_about 132 = .ok (.bipush 10, 2) := by decide +kernel
theorem dX9_about_134 : decode cX9_about 134 = .ok (.isub, 1) := by decide +kernel
theorem dX9_about_135 : decode cX9_about 135 = .ok (.iaload, 1) := by decide +kernel
theorem dX9_about_136 : decode cX9_about 136 = .ok (.goto 5, 3) := by decide +kernel
theorem dX9_about_139 : decode cX9_about 139 = .ok (.bipush (-9), 2) := by decide +kernel
theorem dX9_about_141 : decode cX9_about 141 = .ok (.ireturn, 1) := by decide +kernel
theorem dX9_ruleOf_0 : decode cX9_ruleOf 0 = .ok (.aload_n 0, 1) := by decide +kernel
theorem dX9_ruleOf_1 : decode cX9_ruleOf 1 = .ok (.getfield 17, 3) := by decide +kernel
theorem dX9_ruleOf_4 : decode cX9_ruleOf 4 = .ok (.bipush 8, 2) := by decide +kernel
theorem dX9_ruleOf_6 : decode cX9_ruleOf 6 = .ok (.aload_n 0, 1) := by decide +kernel
theorem dX9_ruleOf_7 : decode cX9_ruleOf 7 = .ok (.getfield 107, 3) := by decide +kernel
theorem dX9_ruleOf_10 : decode cX9_ruleOf 10 = .ok (.iload_n 1, 1) := by decide +kernel
theorem dX9_ruleOf_11 : decode cX9_ruleOf 11 = .ok (.iaload, 1) := by decide +kernel
theorem dX9_ruleOf_12 : decode cX9_ruleOf 12 = .ok (.imul, 1) := by decide +kernel
theorem dX9_ruleOf_13 : decode cX9_ruleOf 13 = .ok (.iload_n 2, 1) := by decide +kernel
theorem dX9_ruleOf_14 : decode cX9_ruleOf 14 = .ok (.iadd, 1) := by decide +kernel
theorem dX9_ruleOf_15 : decode cX9_ruleOf 15 = .ok (.iaload, 1) := by decide +kernel
theorem dX9_ruleOf_16 : decode cX9_ruleOf 16 = .ok (.ireturn, 1) := by decide +kernel
theorem dX9_begin_0 : decode cX9_begin 0 = .ok (.aload_n 0, 1) := by decide +kernel
theorem dX9_begin_1 : decode cX9_begin 1 = .ok (.getfield 107, 3) := by decide +kernel
theorem dX9_begin_4 : decode cX9_begin 4 = .ok (.iload_n 1, 1) := by decide +kernel
theorem dX9_begin_5 : decode cX9_begin 5 = .ok (.iload_n 2, 1) := by decide +kernel
theorem dX9_begin_6 : decode cX9_begin 6 = .ok (.iastore, 1) := by decide +kernel
theorem dX9_begin_7 : decode cX9_begin 7 = .ok (.bipush 60, 2) := by decide +kernel
theorem dX9_begin_9 : decode cX9_begin 9 = .ok (.iload_n 1, 1) := by decide +kernel
theorem dX9_begin_10 : decode cX9_begin 10 = .ok (.imul, 1) := by decide +kernel
theorem dX9_begin_11 : decode cX9_begin 11 = .ok (.istore_n 3, 1) := by decide +kernel
theorem dX9_begin_12 : decode cX9_begin 12 = .ok (.iload_n 3, 1) := by decide +kernel
theorem dX9_begin_13 : decode cX9_begin 13 = .ok (.bipush 60, 2) := by decide +kernel
theorem dX9_begin_15 : decode cX9_begin 15 = .ok (.iload_n 1, 1) := by decide +kernel
theorem dX9_begin_16 : decode cX9_begin 16 = .ok (.imul, 1) := by decide +kernel
theorem dX9_begin_17 : decode cX9_begin 17 = .ok (.bipush 60, 2) := by decide +kernel
theorem dX9_begin_19 : decode cX9_begin 19 = .ok (.iadd, 1) := by decide +kernel
theorem dX9_begin_20 : decode cX9_begin 20 = .ok (.if_icmp .ge 58, 3) := by decide +kernel
theorem dX9_begin_23 : decode cX9_begin 23 = .ok (.aload_n 0, 1) := by decide +kernel
theorem dX9_begin_24 : decode cX9_begin 24 = .ok (.getfield 45, 3) := by decide +kernel
theorem dX9_begin_27 : decode cX9_begin 27 = .ok (.iload_n 3, 1) := by decide +kernel
theorem dX9_begin_28 : decode cX9_begin 28 = .ok (.iconst (-1), 1) := by decide +kernel
theorem dX9_begin_29 : decode cX9_begin 29 = .ok (.iastore, 1) := by decide +kernel
theorem dX9_begin_30 : decode cX9_begin 30 = .ok (.aload_n 0, 1) := by decide +kernel
theorem dX9_begin_31 : decode cX9_begin 31 = .ok (.getfield 54, 3) := by decide +kernel
theorem dX9_begin_34 : decode cX9_begin 34 = .ok (.iload_n 3, 1) := by decide +kernel
theorem dX9_begin_35 : decode cX9_begin 35 = .ok (.iconst (-1), 1) := by decide +kernel
theorem dX9_begin_36 : decode cX9_begin 36 = .ok (.iastore, 1) := by decide +kernel
theorem dX9_begin_37 : decode cX9_begin 37 = .ok (.aload_n 0, 1) := by decide +kernel
theorem dX9_begin_38 : decode cX9_begin 38 = .ok (.getfield 60, 3) := by decide +kernel
theorem dX9_begin_41 : decode cX9_begin 41 = .ok (.iload_n 3, 1) := by decide +kernel
theorem dX9_begin_42 : decode cX9_begin 42 = .ok (.iconst (-1), 1) := by decide +kernel
theorem dX9_begin_43 : decode cX9_begin 43 = .ok (.iastore, 1) := by decide +kernel
theorem dX9_begin_44 : decode cX9_begin 44 = .ok (.aload_n 0, 1) := by decide +kernel
theorem dX9_begin_45 : decode cX9_begin 45 = .ok (.getfield 63, 3) := by decide +kernel
theorem dX9_begin_48 : decode cX9_begin 48 = .ok (.iload_n 3, 1) := by decide +kernel
theorem dX9_begin_49 : decode cX9_begin 49 = .ok (.iconst (-1), 1) := by decide +kernel
theorem dX9_begin_50 : decode cX9_begin 50 = .ok (.iastore, 1) := by decide +kernel
theorem dX9_begin_51 : decode cX9_begin 51 = .ok (.aload_n 0, 1) := by decide +kernel
theorem dX9_begin_52 : decode cX9_begin 52 = .ok (.getfield 66, 3) := by decide +kernel
theorem dX9_begin_55 : decode cX9_begin 55 = .ok (.iload_n 3, 1) := by decide +kernel
theorem dX9_begin_56 : decode cX9_begin 56 = .ok (.iconst 0, 1) := by decide +kernel
theorem dX9_begin_57 : decode cX9_begin 57 = .ok (.iastore, 1) := by decide +kernel
theorem dX9_begin_58 : decode cX9_begin 58 = .ok (.aload_n 0, 1) := by decide +kernel
theorem dX9_begin_59 : decode cX9_begin 59 = .ok (.getfield 69, 3) := by decide +kernel
theorem dX9_begin_62 : decode cX9_begin 62 = .ok (.iload_n 3, 1) := by decide +kernel
theorem dX9_begin_63 : decode cX9_begin 63 = .ok (.iconst 0, 1) := by decide +kernel
theorem dX9_begin_64 : decode cX9_begin 64 = .ok (.iastore, 1) := by decide +kernel
theorem dX9_begin_65 : decode cX9_begin 65 = .ok (.aload_n 0, 1) := by decide +kernel
theorem dX9_begin_66 : decode cX9_begin 66 = .ok (.getfield 72, 3) := by decide +kernel
theorem dX9_begin_69 : decode cX9_begin 69 = .ok (.iload_n 3, 1) := by decide +kernel
theorem dX9_begin_70 : decode cX9_begin 70 = .ok (.iconst 0, 1) := by decide +kernel
theorem dX9_begin_71 : decode cX9_begin 71 = .ok (.iastore, 1) := by decide +kernel
theorem dX9_begin_72 : decode cX9_begin 72 = .ok (.iinc 3 1, 3) := by decide +kernel
theorem dX9_begin_75 : decode cX9_begin 75 = .ok (.goto (-63), 3) := by decide +kernel
theorem dX9_begin_78 : decode cX9_begin 78 = .ok (.aload_n 0, 1) := by decide +kernel
theorem dX9_begin_79 : decode cX9_begin 79 = .ok (.getfield 75, 3) := by decide +kernel
theorem dX9_begin_82 : decode cX9_begin 82 = .ok (.iload_n 1, 1) := by decide +kernel
theorem dX9_begin_83 : decode cX9_begin 83 = .ok (.iconst 0, 1) := by decide +kernel
theorem dX9_begin_84 : decode cX9_begin 84 = .ok (.iastore, 1) := by decide +kernel
theorem dX9_begin_85 : decode cX9_begin 85 = .ok (.aload_n 0, 1) := by decide +kernel
theorem dX9_begin_86 : decode cX9_begin 86 = .ok (.getfield 78, 3) := by decide +kernel
theorem dX9_begin_89 : decode cX9_begin 89 = .ok (.iload_n 1, 1) := by decide +kernel
theorem dX9_begin_90 : decode cX9_begin 90 = .ok (.lconst 0, 1) := by decide +kernel
theorem dX9_begin_91 : decode cX9_begin 91 = .ok (.lastore, 1) := by decide +kernel
theorem dX9_begin_92 : decode cX9_begin 92 = .ok (.aload_n 0, 1) := by decide +kernel
theorem dX9_begin_93 : decode cX9_begin 93 = .ok (.getfield 82, 3) := by decide +kernel
theorem dX9_begin_96 : decode cX9_begin 96 = .ok (.iload_n 1, 1) := by decide +kernel
theorem dX9_begin_97 : decode cX9_begin 97 = .ok (.lconst 0, 1) := by decide +kernel
theorem dX9_begin_98 : decode cX9_begin 98 = .ok (.lastore, 1) := by decide +kernel
theorem dX9_begin_99 : decode cX9_begin 99 = .ok (.aload_n 0, 1) := by decide +kernel
theorem dX9_begin_100 : decode cX9_begin 100 = .ok (.getfield 85, 3) := by decide +kernel
theorem dX9_begin_103 : decode cX9_begin 103 = .ok (.iload_n 1, 1) := by decide +kernel
theorem dX9_begin_104 : decode cX9_begin 104 = .ok (.iconst 0, 1) := by decide +kernel
theorem dX9_begin_105 : decode cX9_begin 105 = .ok (.bastore, 1) := by decide +kernel
theorem dX9_begin_106 : decode cX9_begin 106 = .ok (.aload_n 0, 1) := by decide +kernel
theorem dX9_begin_107 : decode cX9_begin 107 = .ok (.getfield 89, 3) := by decide +kernel
theorem dX9_begin_110 : decode cX9_begin 110 = .ok (.iload_n 1, 1) := by decide +kernel
theorem dX9_begin_111 : decode cX9_begin 111 = .ok (.iconst 0, 1) := by decide +kernel
theorem dX9_begin_112 : decode cX9_begin 112 = .ok (.iastore, 1) := by decide +kernel
